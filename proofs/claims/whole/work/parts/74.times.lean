/-! times, of the class and of the reference. By program (wip/whole/gen/times.py). -/
set_option maxHeartbeats 4000000 in
set_option maxRecDepth 20000 in
theorem cm_Top_times (l : Launch) (z : zz_Z) (σ : hw_M) (hz : ∀ k, zz_k (zz_n z) k → zz_O z k) (S : Nat → Nat → Prop) (hC : cs_ok z σ S) (x y : Int32) : Met l y_Top_times (hw_c y_Top_times b_Top_times 3 (some .int)) (hw_r 3) (va_Pc [.ref (zz_A z (0, 0)), .int x, .int y] (zz_B z σ)) (va_Qi (fun r σ' => σ' = σ ∧ ((σ (0, 0) 6 = 1 ∧ el_i (zz_N z) x) → ∃ k n, gp_od (gr_p z σ) (el_v x) k ∧ sp_md y k n ∧ r = nI (gp_pw (gr_p z σ) (el_v x) n)) ∧ (¬ (σ (0, 0) 6 = 1 ∧ el_i (zz_N z) x) → r = -1)) (zz_B z) (zz_F z)) 0 0 (zz_F z) := by
  refine hw_meti (post := (fun r σ' => σ' = σ ∧ ((σ (0, 0) 6 = 1 ∧ el_i (zz_N z) x) → ∃ k n, gp_od (gr_p z σ) (el_v x) k ∧ sp_md y k n ∧ r = nI (gp_pw (gr_p z σ) (el_v x) n)) ∧ (¬ (σ (0, 0) 6 = 1 ∧ el_i (zz_N z) x) → r = -1))) (by decide) (Nat.le_of_ble_eq_true rfl) ?_
  intro p e s m args below meth c ls Q X hret V hl
  have hl : lv_has ls 3 [(0, .ref (zz_A z (0, 0))), (1, .int x), (2, .int y)] := hl
  have hB := V.1.2.2
  obtain ⟨hS, hR, hf2, hes, hfx⟩ := id hC
  obtain ⟨hn7, hN, hn, hNe, hw, hsz, hln⟩ := id hS
  refine nw_aload_n X d_Top_times_0 rfl (lv_at hl 0 rfl) ?_
  refine nw_iload_n X d_Top_times_1 rfl (lv_at hl 1 rfl) ?_
  refine hw_calli X V (hz (0, 0) rfl) rfl rfl (cm_Top_isElement l z σ hz S hC x) cs_Top_91 (by decide) rfl hl.1 rfl (Nat.le_of_ble_eq_true rfl) (by decide) d_Top_times_2 (fun r σ' H locs V hr => ?_)
  obtain ⟨b, hb, rfl, hσ, hbp⟩ := hr
  rw [hσ] at V
  clear hσ
  have hB := V.1.2.2
  refine nw_if_ne X (tgt := 10) d_Top_times_5 (by decide) (by omega) (fun hc => ?_) (fun hc => ?_)
  · skip
    obtain ⟨hf1, i, hi, rfl⟩ := hbp.mp (by omega)
    have hL := (hfx hf1).1
    have g := lo_gp hL
    have ev : el_v (nI i) = i := el_nv (by omega) hi
    refine nw_aload_n X d_Top_times_10 rfl (lv_at hl 0 rfl) ?_
    refine gf_Top_18 X V (hz (0, 0) rfl) d_Top_times_11 ?_
    refine nw_iload_n X d_Top_times_14 rfl (lv_at hl 1 rfl) ?_
    refine nw_iload_n X d_Top_times_15 rfl (lv_at hl 2 rfl) ?_
    refine nw_aload_n X d_Top_times_16 rfl (lv_at hl 0 rfl) ?_
    refine gf_Top_18 X V (hz (0, 0) rfl) d_Top_times_17 ?_
    refine nw_iload_n X d_Top_times_20 rfl (lv_at hl 1 rfl) ?_
    refine hw_calli X V (hz (1, 0) rfl) rfl rfl (cm_Col_orderOf l z σ hz hL i hi) cs_Top_98 (by decide) rfl hl.1 rfl (Nat.le_of_ble_eq_true rfl) (by decide) d_Top_times_21 (fun r σ' H locs V hr => ?_)
    obtain ⟨hσ, k, rfl, hod⟩ := hr
    rw [hσ] at V
    have hk1 : 1 ≤ k := hod.1
    have hk2 : k ≤ 128 := Nat.le_trans (gp_od_le g hi hod) hN
    obtain ⟨v, hv, hfm, hmd⟩ := fm_floor y hk1 hk2
    refine hw_fm X wi_314 (nI_ne0 (by omega) (by omega)) hl.1 (by decide) (Nat.le_of_ble_eq_true rfl) (Nat.le_of_ble_eq_true rfl) (by decide) d_Top_times_24 ?_
    rw [hfm]
    refine hw_calli X V (hz (1, 0) rfl) rfl rfl (cm_Col_multiple l z σ hz hL i v hi (by omega)) cs_Top_106 (by decide) rfl hl.1 rfl (Nat.le_of_ble_eq_true rfl) (by decide) d_Top_times_27 (fun r σ' H locs V hr => ?_)
    obtain ⟨hσ, rfl⟩ := hr
    rw [hσ] at V
    clear hσ
    have hB := V.1.2.2
    exact hret _ _ _ _ _ _ d_Top_times_30 V ⟨rfl, fun _ => ⟨k, v, by rw [ev]; exact hod, hmd, by rw [ev]⟩, fun h => absurd ⟨hf1, i, hi, rfl⟩ h⟩
  · skip
    refine nw_iconstv X (-1) d_Top_times_8 (by decide) ?_
    exact hret _ _ _ _ _ _ d_Top_times_9 V ⟨rfl, fun h => absurd (hbp.mpr h) (by omega), fun _ => rfl⟩
set_option maxHeartbeats 4000000 in
set_option maxRecDepth 20000 in
theorem cm_Mod_times (l : Launch) (z : zz_Z) (σ : hw_M) (hz : ∀ k, zz_k (zz_n z) k → zz_O z k) (r9 w p9 : Nat → Nat) (c9 : Nat → Nat → Nat) (S : Nat → Nat → Prop) (hM : ms_ok z σ r9 w p9 c9 S) (x y : Int32) : Met l y_Mod_times (hw_c y_Mod_times b_Mod_times 7 (some .int)) (hw_r 2) (va_Pc [.ref (zz_A z (20, 0)), .int x, .int y] (zz_B z σ)) (va_Qi (fun r σ' => σ' = σ ∧ ((σ (20, 0) 6 = 1 ∧ el_i (zz_N z) x) → ∃ k n, gp_od (tw_op (zz_n z) r9 w p9 c9 (zz_n z)) (el_v x) k ∧ sp_md y k n ∧ r = nI (gp_pw (tw_op (zz_n z) r9 w p9 c9 (zz_n z)) (el_v x) n)) ∧ (¬ (σ (20, 0) 6 = 1 ∧ el_i (zz_N z) x) → r = -1)) (zz_B z) (zz_F z)) 0 0 (zz_F z) := by
  refine hw_meti (post := (fun r σ' => σ' = σ ∧ ((σ (20, 0) 6 = 1 ∧ el_i (zz_N z) x) → ∃ k n, gp_od (tw_op (zz_n z) r9 w p9 c9 (zz_n z)) (el_v x) k ∧ sp_md y k n ∧ r = nI (gp_pw (tw_op (zz_n z) r9 w p9 c9 (zz_n z)) (el_v x) n)) ∧ (¬ (σ (20, 0) 6 = 1 ∧ el_i (zz_N z) x) → r = -1))) (by decide) (Nat.le_of_ble_eq_true rfl) ?_
  intro p e s m args below meth c ls Q X hret V hl
  have hl : lv_has ls 7 [(0, .ref (zz_A z (20, 0))), (1, .int x), (2, .int y)] := hl
  have hB := V.1.2.2
  obtain ⟨hD, hR, hf2, hfx⟩ := id hM
  obtain ⟨hn7, hN, hn, hNe, h29, h30, h31⟩ := id hD
  obtain ⟨hw, hsz, hri, hcj⟩ := id hR
  refine nw_aload_n X d_Mod_times_0 rfl (lv_at hl 0 rfl) ?_
  refine nw_iload_n X d_Mod_times_1 rfl (lv_at hl 1 rfl) ?_
  refine hw_calli X V (hz (20, 0) rfl) rfl rfl (cm_Mod_is l z σ hz hD hf2 x) cs_Mod_81 (by decide) rfl hl.1 rfl (Nat.le_of_ble_eq_true rfl) (by decide) d_Mod_times_2 (fun r σ' H locs V hr => ?_)
  obtain ⟨b1, hb1, rfl, hσ, hbp1⟩ := hr
  rw [hσ] at V
  clear hσ
  have hB := V.1.2.2
  refine nw_if_ne X (tgt := 10) d_Mod_times_5 (by decide) (by omega) (fun hc1 => ?_) (fun hc1 => ?_)
  · skip
    obtain ⟨hf1, a, ha, rfl⟩ := hbp1.mp (by omega)
    obtain ⟨hk, hg, hpl⟩ := hfx hf1
    have g := hg.1
    have ev : el_v (nI a) = a := el_nv (by omega) ha
    refine nw_aload_n X d_Mod_times_10 rfl (lv_at hl 0 rfl) ?_
    refine nw_iload_n X d_Mod_times_11 rfl (lv_at hl 1 rfl) ?_
    refine hw_calli X V (hz (20, 0) rfl) rfl rfl (cm_Mod_order l z σ hz r9 w p9 c9 S hM (nI a)) cs_Mod_84 (by decide) rfl hl.1 rfl (Nat.le_of_ble_eq_true rfl) (by decide) d_Mod_times_12 (fun r σ' H locs V hr => ?_)
    obtain ⟨hσ, hr1, -⟩ := hr
    rw [hσ] at V
    obtain ⟨k, rfl, hod⟩ := hr1 ⟨hf1, a, ha, rfl⟩
    rw [ev] at hod
    have hk1 : 1 ≤ k := hod.1
    have hk2 : k ≤ 128 := Nat.le_trans (gp_od_le g ha hod) hN
    obtain ⟨u9, hu9, hu1, hmd⟩ := fm_two y hk1 hk2
    have hmk : u9 % k < k := Nat.mod_lt _ hk1
    refine nw_istore_n X (lv' := [(3, _), (0, _), (1, _), (2, _)]) d_Mod_times_15 rfl hl (by decide) rfl (fun ls hl => ?_)
    refine nw_iload_n X d_Mod_times_16 rfl (lv_at hl 3 rfl) ?_
    refine nw_iload_n X d_Mod_times_17 rfl (lv_at hl 0 rfl) ?_
    refine lv_irem X.1.1 X.1.2.1 d_Mod_times_18 (nI_ne0 (by omega) (by omega)) ?_
    refine nw_iload_n X d_Mod_times_19 rfl (lv_at hl 0 rfl) ?_
    refine lv_iadd X.1.1 X.1.2.1 d_Mod_times_20 ?_
    rw [hu1]
    refine nw_iload_n X d_Mod_times_21 rfl (lv_at hl 0 rfl) ?_
    refine nw_irem X (by omega) (by omega) (by omega) d_Mod_times_22 ?_
    refine nw_istore X (lv' := [(4, _), (3, _), (0, _), (1, _), (2, _)]) d_Mod_times_23 hl (by decide) rfl (fun ls hl => ?_)
    refine nw_iconst X 0 d_Mod_times_25 (by decide) ?_
    refine nw_istore X (lv' := [(5, _), (4, _), (3, _), (0, _), (1, _), (2, _)]) d_Mod_times_26 hl (by decide) rfl (fun ls hl => ?_)
    refine nw_iconst X 0 d_Mod_times_28 (by decide) ?_
    refine nw_istore X (lv' := [(6, _), (5, _), (4, _), (3, _), (0, _), (1, _), (2, _)]) d_Mod_times_29 hl (by decide) rfl (fun ls hl => ?_)
    have LP31 : ∀ (d i word : Nat) (H : Heap) (locs : List Loc) (ls : Array Slot), u9 % k - i < d → (i ≤ u9 % k) → (word = gp_pw (tw_op (zz_n z) r9 w p9 c9 (zz_n z)) a i) → zz_V z σ s.heap H locs →  lv_has ls 7 [(0, .ref (zz_A z (20, 0))), (1, .int (nI a)), (4, .int (nI (u9 % k))), (5, .int (nI word)), (6, .int (nI i))] →  W p l e (hw_r 2) s m args below meth c H locs 0 0 Q (F0 m 31 ls []) := by
      intro d
      induction d with
      | zero => intro i word H locs ls hd; exact absurd hd (Nat.not_lt_zero _)
      | succ d IH31 =>
        intro i word H locs ls hd hik hwd V hl
        have hB := V.1.2.2
        have hwl : word < zz_N z := by rw [hwd]; exact g.pwl ha i
        refine nw_iload X d_Mod_times_31 (lv_at hl 4 rfl) ?_
        refine nw_iload X d_Mod_times_33 (lv_at hl 2 rfl) ?_
        refine nw_icmp_ge X (tgt := 53) d_Mod_times_35 (by decide) (by omega) (by omega) (fun hc2 => ?_) (fun hc2 => ?_)
        · skip
          refine nw_iload X d_Mod_times_53 (lv_at hl 3 rfl) ?_
          exact hret _ _ _ _ _ _ d_Mod_times_55 V ⟨rfl, fun _ => ⟨k, u9 % k, by rw [ev]; exact hod, hmd, by rw [ev, hwd, show i = u9 % k by omega]⟩, fun h => absurd ⟨hf1, a, ha, rfl⟩ h⟩
        · skip
          refine nw_aload_n X d_Mod_times_38 rfl (lv_at hl 0 rfl) ?_
          refine nw_iload X d_Mod_times_39 (lv_at hl 3 rfl) ?_
          refine nw_iload_n X d_Mod_times_41 rfl (lv_at hl 1 rfl) ?_
          refine hw_calli X V (hz (20, 0) rfl) rfl rfl (cm_Mod_of l z σ hz _ _ (by have := hwl; omega) (by have := ha; omega)) cs_Mod_59 (by decide) rfl hl.1 rfl (Nat.le_of_ble_eq_true rfl) (by decide) d_Mod_times_42 (fun r σ' H locs V hr => ?_)
          obtain ⟨hσ, rfl⟩ := hr
          rw [hσ] at V
          clear hσ
          have hB := V.1.2.2
          rw [hg.2.1 _ _ hwl ha]
          refine nw_istore X (lv' := [(5, _), (0, _), (1, _), (4, _), (6, _)]) d_Mod_times_45 hl (by decide) rfl (fun ls hl => ?_)
          refine nw_iinc X (lv' := [(6, _), (5, _), (0, _), (1, _), (4, _)]) (k := 4) 1 d_Mod_times_47 hl rfl (by decide) (by decide) rfl (fun ls hl => ?_)
          refine nw_goto X (tgt := 31) d_Mod_times_50 (by decide) ?_
          exact IH31 (i + 1) _ _ _ _ (by omega) hc2 (by rw [hwd]; rfl) V (lv_sub hl [2, 3, 4, 1, 0] rfl)
    exact LP31 (u9 % k + 1) 0 0 _ _ _ (by omega) (Nat.zero_le _) rfl V (lv_sub hl [4, 5, 2, 1, 0] rfl)
  · skip
    have hno : ¬ (σ (20, 0) 6 = 1 ∧ el_i (zz_N z) x) := fun h => by have := hbp1.mpr h; omega
    refine nw_iconstv X (-1) d_Mod_times_8 (by decide) ?_
    exact hret _ _ _ _ _ _ d_Mod_times_9 V ⟨rfl, fun h => absurd h hno, fun _ => rfl⟩
