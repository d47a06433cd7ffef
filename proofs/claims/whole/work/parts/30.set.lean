/-! The set of elements: contracts. By program (wip/whole/gen/set.py). -/
set_option maxHeartbeats 4000000 in
set_option maxRecDepth 20000 in
theorem cm_Set_add (l : Launch) (z : zz_Z) (σ : hw_M) (j : Nat) (q : List Nat) (h13 : zz_O z (13, j)) (h14 : zz_O z (14, j)) (h15 : zz_O z (15, j)) (hN : zz_N z ≤ 128) (hE : es_ok z σ j q) (a : Nat) (ha : a < zz_N z) : Met l y_Set_add (hw_c y_Set_add b_Set_add 2 none) (hw_r 0) (va_Pc [.ref (zz_A z (13, j)), .int (nI a)] (zz_B z σ)) (va_Qv (fun σ' => es_ok z σ' j (ls_add q a) ∧ es_fr j σ σ') (zz_B z) (zz_F z)) 0 0 (zz_F z) := by
  refine hw_metv (post := (fun σ' => es_ok z σ' j (ls_add q a) ∧ es_fr j σ σ')) (by decide) (Nat.le_of_ble_eq_true rfl) ?_
  intro p e s m args below meth c ls Q X hret V hl
  have hl : lv_has ls 2 [(0, .ref (zz_A z (13, j))), (1, .int (nI a))] := hl
  have hB := V.1.2.2
  refine nw_aload_n X d_Set_add_0 rfl (lv_at hl 0 rfl) ?_
  refine gf_Set_9 X V h13 d_Set_add_1 ?_
  refine nw_iload_n X d_Set_add_4 rfl (lv_at hl 1 rfl) ?_
  refine hw_zald X V h14 1 rfl rfl ha (by omega) d_Set_add_5 ?_
  refine nw_if_ne X (tgt := 36) d_Set_add_6 (by decide) (hB _ _) (fun hc => ?_) (fun hc => ?_)
  · skip
    have hin : a ∈ q := Classical.byContradiction fun h => hc ((es_mark hE ha).1.mpr h)
    exact hret _ _ _ _ _ d_Set_add_36 V ⟨by rw [show ls_add q a = q from if_pos hin]; exact hE, es_fr.rf⟩
  · skip
    have hn : a ∉ q := (es_mark hE ha).1.mp hc
    have hlen := ls_full hE.1 hE.2.1 ha hn
    have hq := hE.2.2.1
    refine nw_aload_n X d_Set_add_9 rfl (lv_at hl 0 rfl) ?_
    refine gf_Set_9 X V h13 d_Set_add_10 ?_
    refine nw_iload_n X d_Set_add_13 rfl (lv_at hl 1 rfl) ?_
    refine nw_iconst X 1 d_Set_add_14 (by decide) ?_
    refine hw_zast X V h14 1 (fun _ => rfl) rfl ha (by omega) (by decide) d_Set_add_15 (fun H locs V => ?_)
    refine nw_aload_n X d_Set_add_16 rfl (lv_at hl 0 rfl) ?_
    refine gf_Set_15 X V h13 d_Set_add_17 ?_
    refine nw_aload_n X d_Set_add_20 rfl (lv_at hl 0 rfl) ?_
    refine gf_Set_19 X V h13 d_Set_add_21 ?_
    rw [hw_up_k _ _ _ (hw_ne (by decide))]
    refine nw_iload_n X d_Set_add_24 rfl (lv_at hl 1 rfl) ?_
    refine hw_iast X V h15 0 (fun _ => rfl) rfl (by first | assumption | omega) (by first | assumption | omega) (by first | assumption | omega) d_Set_add_25 (fun H locs V => ?_)
    refine nw_aload_n X d_Set_add_26 rfl (lv_at hl 0 rfl) ?_
    refine nw_dup X d_Set_add_27 rfl ?_
    refine gf_Set_19 X V h13 d_Set_add_28 ?_
    rw [hw_up_k _ _ _ (hw_ne (by decide)), hw_up_k _ _ _ (hw_ne (by decide))]
    refine nw_iconst X 1 d_Set_add_31 (by decide) ?_
    refine nw_iadd X d_Set_add_32 ?_
    refine pf_Set_19 X V h13 (by first | assumption | omega) d_Set_add_33 (fun H locs V => ?_)
    exact hret _ _ _ _ _ d_Set_add_36 V ⟨es_push hE ha hn, es_fr_push⟩
set_option maxHeartbeats 4000000 in
set_option maxRecDepth 20000 in
theorem cm_Set_empty (l : Launch) (z : zz_Z) (σ : hw_M) (j : Nat) (q : List Nat) (h13 : zz_O z (13, j)) (h14 : zz_O z (14, j)) (h15 : zz_O z (15, j)) (hN : zz_N z ≤ 128) (hE : es_ok z σ j q)  : Met l y_Set_empty (hw_c y_Set_empty b_Set_empty 2 none) (hw_r 0) (va_Pc [.ref (zz_A z (13, j))] (zz_B z σ)) (va_Qv (fun σ' => es_ok z σ' j [] ∧ es_fr j σ σ') (zz_B z) (zz_F z)) 0 0 (zz_F z) := by
  refine hw_metv (post := (fun σ' => es_ok z σ' j [] ∧ es_fr j σ σ')) (by decide) (Nat.le_of_ble_eq_true rfl) ?_
  intro p e s m args below meth c ls Q X hret V hl
  have hl : lv_has ls 2 [(0, .ref (zz_A z (13, j)))] := hl
  have hB := V.1.2.2
  have hlen := es_len hE
  refine nw_iconst X 0 d_Set_empty_0 (by decide) ?_
  refine nw_istore_n X (lv' := [(1, _), (0, _)]) d_Set_empty_1 rfl hl (by decide) rfl (fun ls hl => ?_)
  have LP2 : ∀ (d k : Nat) (σ1 : hw_M) (H : Heap) (locs : List Loc) (ls : Array Slot), q.length - k < d → k ≤ q.length → (∀ u : hw_P, u ≠ (14, j) → σ1 u = σ u) → (∀ a, a < zz_N z → σ1 (14, j) a = 0 ∨ (a ∈ q ∧ ∀ i, i < k → q.getD i 0 ≠ a)) → zz_V z σ1 s.heap H locs → lv_has ls 2 [(0, .ref (zz_A z (13, j))), (1, .int (nI k))] →  W p l e (hw_r 0) s m args below meth c H locs 0 0 Q (F0 m 2 ls []) := by
    intro d
    induction d with
    | zero => intro k σ1 H locs ls hd; exact absurd hd (Nat.not_lt_zero _)
    | succ d IH =>
      intro k σ1 H locs ls hd hk hfr hM V hl
      have hB := V.1.2.2
      refine nw_iload_n X d_Set_empty_2 rfl (lv_at hl 1 rfl) ?_
      refine nw_aload_n X d_Set_empty_3 rfl (lv_at hl 0 rfl) ?_
      refine gf_Set_19 X V h13 d_Set_empty_4 ?_
      rw [hfr (13, j) (hw_ne (by decide)), hE.2.2.1]
      refine nw_icmp_ge X (tgt := 28) d_Set_empty_7 (by decide) (by first | assumption | omega) (by first | assumption | omega) (fun hc => ?_) (fun hc => ?_)
      · skip
        refine nw_aload_n X d_Set_empty_28 rfl (lv_at hl 0 rfl) ?_
        refine nw_iconst X 0 d_Set_empty_29 (by decide) ?_
        refine pf_Set_19 X V h13 (by first | assumption | omega) d_Set_empty_30 (fun H locs V => ?_)
        exact hret _ _ _ _ _ d_Set_empty_33 V (es_none (show k = q.length by omega) hfr hM)
      · skip
        refine nw_aload_n X d_Set_empty_10 rfl (lv_at hl 0 rfl) ?_
        refine gf_Set_9 X V h13 d_Set_empty_11 ?_
        refine nw_aload_n X d_Set_empty_14 rfl (lv_at hl 0 rfl) ?_
        refine gf_Set_15 X V h13 d_Set_empty_15 ?_
        refine nw_iload_n X d_Set_empty_18 rfl (lv_at hl 1 rfl) ?_
        refine hw_iald X V h15 0 rfl rfl (by first | assumption | omega) (by first | assumption | omega) d_Set_empty_19 ?_
        rw [hfr (15, j) (hw_ne (by decide)), hE.2.2.2.1 k hc]
        refine nw_iconst X 0 d_Set_empty_20 (by decide) ?_
        refine hw_zast X V h14 1 (fun _ => rfl) rfl (hE.2.1 _ (ls_at_mem hc)) (by omega) (by decide) d_Set_empty_21 (fun H locs V => ?_)
        refine nw_iinc X (lv' := [(1, _), (0, _)]) (k := 1) 1 d_Set_empty_22 hl rfl (by decide) (by decide) rfl (fun ls hl => ?_)
        refine nw_goto X (tgt := 2) d_Set_empty_25 (by decide) ?_
        exact IH (k + 1) _ _ _ _ (by omega) hc (fun u hu => (hw_up_k _ _ _ hu).trans (hfr u hu)) (es_unm hM) V (lv_sub hl [1, 0] rfl)
  exact LP2 (q.length + 1) 0 σ _ _ _ (by omega) (Nat.zero_le _) (fun _ _ => rfl) (es_unm0 hE) V (lv_sub hl [1, 0] rfl)
set_option maxHeartbeats 4000000 in
set_option maxRecDepth 20000 in
theorem cm_Set_holds (l : Launch) (z : zz_Z) (σ : hw_M) (j : Nat) (q : List Nat) (h13 : zz_O z (13, j)) (h14 : zz_O z (14, j)) (h15 : zz_O z (15, j)) (hN : zz_N z ≤ 128) (hE : es_ok z σ j q) (a : Nat) (ha : a < zz_N z) : Met l y_Set_holds (hw_c y_Set_holds b_Set_holds 2 (some .boolean)) (hw_r 0) (va_Pc [.ref (zz_A z (13, j)), .int (nI a)] (zz_B z σ)) (va_Qi (fun r σ' => ∃ b, b < 2 ∧ r = nI b ∧ (fun b σ' => σ' = σ ∧ b = if a ∈ q then 1 else 0) b σ') (zz_B z) (zz_F z)) 0 0 (zz_F z) := by
  refine hw_metz (post := (fun b σ' => σ' = σ ∧ b = if a ∈ q then 1 else 0)) (by decide) (Nat.le_of_ble_eq_true rfl) ?_
  intro p e s m args below meth c ls Q X hret V hl
  have hl : lv_has ls 2 [(0, .ref (zz_A z (13, j))), (1, .int (nI a))] := hl
  have hB := V.1.2.2
  refine nw_aload_n X d_Set_holds_0 rfl (lv_at hl 0 rfl) ?_
  refine gf_Set_9 X V h13 d_Set_holds_1 ?_
  refine nw_iload_n X d_Set_holds_4 rfl (lv_at hl 1 rfl) ?_
  refine hw_zald X V h14 1 rfl rfl ha (by omega) d_Set_holds_5 ?_
  exact hret _ _ _ _ _ _ d_Set_holds_6 V (es_mark hE ha).2 ⟨rfl, hE.2.2.2.2 a ha⟩
set_option maxHeartbeats 4000000 in
set_option maxRecDepth 20000 in
theorem cm_Set_amount (l : Launch) (z : zz_Z) (σ : hw_M) (j : Nat) (q : List Nat) (h13 : zz_O z (13, j)) (h14 : zz_O z (14, j)) (h15 : zz_O z (15, j)) (hN : zz_N z ≤ 128) (hE : es_ok z σ j q)  : Met l y_Set_amount (hw_c y_Set_amount b_Set_amount 1 (some .int)) (hw_r 0) (va_Pc [.ref (zz_A z (13, j))] (zz_B z σ)) (va_Qi (fun r σ' => σ' = σ ∧ r = nI q.length) (zz_B z) (zz_F z)) 0 0 (zz_F z) := by
  refine hw_meti (post := (fun r σ' => σ' = σ ∧ r = nI q.length)) (by decide) (Nat.le_of_ble_eq_true rfl) ?_
  intro p e s m args below meth c ls Q X hret V hl
  have hl : lv_has ls 1 [(0, .ref (zz_A z (13, j)))] := hl
  have hB := V.1.2.2
  refine nw_aload_n X d_Set_amount_0 rfl (lv_at hl 0 rfl) ?_
  refine gf_Set_19 X V h13 d_Set_amount_1 ?_
  exact hret _ _ _ _ _ _ d_Set_amount_4 V ⟨rfl, by rw [hE.2.2.1]⟩
set_option maxHeartbeats 4000000 in
set_option maxRecDepth 20000 in
theorem cm_Set_member (l : Launch) (z : zz_Z) (σ : hw_M) (j : Nat) (q : List Nat) (h13 : zz_O z (13, j)) (h14 : zz_O z (14, j)) (h15 : zz_O z (15, j)) (hN : zz_N z ≤ 128) (hE : es_ok z σ j q) (k : Nat) (hk : k < q.length) : Met l y_Set_member (hw_c y_Set_member b_Set_member 2 (some .int)) (hw_r 0) (va_Pc [.ref (zz_A z (13, j)), .int (nI k)] (zz_B z σ)) (va_Qi (fun r σ' => σ' = σ ∧ r = nI (q.getD k 0)) (zz_B z) (zz_F z)) 0 0 (zz_F z) := by
  refine hw_meti (post := (fun r σ' => σ' = σ ∧ r = nI (q.getD k 0))) (by decide) (Nat.le_of_ble_eq_true rfl) ?_
  intro p e s m args below meth c ls Q X hret V hl
  have hl : lv_has ls 2 [(0, .ref (zz_A z (13, j))), (1, .int (nI k))] := hl
  have hB := V.1.2.2
  have hlen := es_len hE
  refine nw_aload_n X d_Set_member_0 rfl (lv_at hl 0 rfl) ?_
  refine gf_Set_15 X V h13 d_Set_member_1 ?_
  refine nw_iload_n X d_Set_member_4 rfl (lv_at hl 1 rfl) ?_
  refine hw_iald X V h15 0 rfl rfl (by omega) (by omega) d_Set_member_5 ?_
  exact hret _ _ _ _ _ _ d_Set_member_6 V ⟨rfl, by rw [hE.2.2.2.1 k hk]⟩
set_option maxHeartbeats 4000000 in
set_option maxRecDepth 20000 in
theorem cm_Set_least (l : Launch) (z : zz_Z) (σ : hw_M) (j : Nat) (q : List Nat) (h13 : zz_O z (13, j)) (h14 : zz_O z (14, j)) (h15 : zz_O z (15, j)) (hN : zz_N z ≤ 128) (hE : es_ok z σ j q) (hx : ∃ x, x ∈ q) : Met l y_Set_least (hw_c y_Set_least b_Set_least 2 (some .int)) (hw_r 0) (va_Pc [.ref (zz_A z (13, j))] (zz_B z σ)) (va_Qi (fun r σ' => σ' = σ ∧ ∃ v, r = nI v ∧ v ∈ q ∧ ∀ x, x ∈ q → v ≤ x) (zz_B z) (zz_F z)) 0 0 (zz_F z) := by
  refine hw_meti (post := (fun r σ' => σ' = σ ∧ ∃ v, r = nI v ∧ v ∈ q ∧ ∀ x, x ∈ q → v ≤ x)) (by decide) (Nat.le_of_ble_eq_true rfl) ?_
  intro p e s m args below meth c ls Q X hret V hl
  have hl : lv_has ls 2 [(0, .ref (zz_A z (13, j)))] := hl
  have hB := V.1.2.2
  refine nw_iconst X 0 d_Set_least_0 (by decide) ?_
  refine nw_istore_n X (lv' := [(1, _), (0, _)]) d_Set_least_1 rfl hl (by decide) rfl (fun ls hl => ?_)
  have LP2 : ∀ (d k : Nat) (ls : Array Slot), zz_N z - k < d → k ≤ zz_N z → (∀ x, x ∈ q → k ≤ x) → lv_has ls 2 [(0, .ref (zz_A z (13, j))), (1, .int (nI k))] →  W p l e (hw_r 0) s m args below meth c s.heap [] 0 0 Q (F0 m 2 ls []) := by
    intro d
    induction d with
    | zero => intro k ls hd; exact absurd hd (Nat.not_lt_zero _)
    | succ d IH =>
      intro k ls hd hk hM hl
      refine nw_iload_n X d_Set_least_2 rfl (lv_at hl 1 rfl) ?_
      refine nw_aload_n X d_Set_least_3 rfl (lv_at hl 0 rfl) ?_
      refine gf_Set_9 X V h13 d_Set_least_4 ?_
      refine hw_alen X V h14 1 rfl rfl d_Set_least_7 ?_
      refine nw_icmp_ge X (tgt := 28) d_Set_least_8 (by decide) (by omega) (by show zz_N z < _; omega) (fun hc => ?_) (fun hc => ?_)
      · skip
        obtain ⟨x, hx⟩ := hx
        have h1 := hM x hx
        have h2 := hE.2.1 x hx
        omega
      · skip
        have hc : k < zz_N z := hc
        refine nw_aload_n X d_Set_least_11 rfl (lv_at hl 0 rfl) ?_
        refine gf_Set_9 X V h13 d_Set_least_12 ?_
        refine nw_iload_n X d_Set_least_15 rfl (lv_at hl 1 rfl) ?_
        refine hw_zald X V h14 1 rfl rfl hc (by omega) d_Set_least_16 ?_
        refine nw_if_eq X (tgt := 22) d_Set_least_17 (by decide) (hB _ _) (fun h0 => ?_) (fun h0 => ?_)
        · skip
          have hno : k ∉ q := (es_mark hE hc).1.mp h0
          refine nw_iinc X (lv' := [(1, _), (0, _)]) (k := 1) 1 d_Set_least_22 hl rfl (by decide) (by decide) rfl (fun ls hl => ?_)
          refine nw_goto X (tgt := 2) d_Set_least_25 (by decide) ?_
          exact IH (k + 1) _ (by omega) hc (fun x hx => Nat.lt_of_le_of_ne (hM x hx) (fun e => hno (by rw [e]; exact hx))) (lv_sub hl [1, 0] rfl)
        · skip
          refine nw_iload_n X d_Set_least_20 rfl (lv_at hl 1 rfl) ?_
          exact hret _ _ _ _ _ _ d_Set_least_21 V ⟨rfl, k, rfl, Classical.byContradiction fun h => h0 ((es_mark hE hc).1.mpr h), hM⟩
  exact LP2 (zz_N z + 1) 0 _ (by omega) (Nat.zero_le _) (fun _ _ => Nat.zero_le _) (lv_sub hl [1, 0] rfl)
