/-! The reference: building its table. By program (wip/whole/gen/mod5.py). -/
set_option maxHeartbeats 4000000 in
set_option maxRecDepth 20000 in
theorem cm_Mod_letters (l : Launch) (z : zz_Z) (σ : hw_M) (hz : ∀ k, zz_k (zz_n z) k → zz_O z k) (hD : md_ok z σ) (r9 w p9 : Nat → Nat) (c9 : Nat → Nat → Nat) (hR : mr_ok z σ r9 w p9 c9) (i : Nat) (hi : i < zz_n z) (hk : tw_ok (zz_n z) r9 w p9 c9 (zz_n z - (i + 1))) (hT : tl_ok z σ r9 w p9 c9 (zz_n z - (i + 1))) (a : Nat) (ha : a < 128) : Met l y_Mod_letters (hw_c y_Mod_letters b_Mod_letters 7 (some .int)) (hw_r 1) (va_Pc [.ref (zz_A z (20, 0)), .int (nI i), .int (nI a)] (zz_B z σ)) (va_Qi (fun r σ' => σ' = σ ∧ r = nI ((tb_s (zz_n z) r9 w p9 c9 i) a)) (zz_B z) (zz_F z)) 0 0 (zz_F z) := by
  refine hw_meti (post := (fun r σ' => σ' = σ ∧ r = nI ((tb_s (zz_n z) r9 w p9 c9 i) a))) (by decide) (Nat.le_of_ble_eq_true rfl) ?_
  intro p e s m args below meth c ls Q X hret V hl
  have hl : lv_has ls 7 [(0, .ref (zz_A z (20, 0))), (1, .int (nI i)), (2, .int (nI a))] := hl
  have hB := V.1.2.2
  obtain ⟨hn7, hN, hn, hNe, h29, h30, h31⟩ := id hD
  obtain ⟨hw, hsz, hri, hcj⟩ := id hR
  have hq := mr_lv hR hN hi
  have g := tw_gpi hw hi hk
  have hc6 : ∀ j, i < j → j < zz_n z → c9 i j < w i := fun j h1 h2 => (hcj i j h1 h2).2
  have hTi := tl_i hw hi hT
  obtain ⟨er, ew, ep, hp⟩ := hri i hi
  refine nw_iconst X 0 d_Mod_letters_0 (by decide) ?_
  refine nw_istore_n X (lv' := [(3, _), (0, _), (1, _), (2, _)]) d_Mod_letters_1 rfl hl (by decide) rfl (fun ls hl => ?_)
  refine nw_iload_n X d_Mod_letters_2 rfl (lv_at hl 2 rfl) ?_
  refine nw_iconst X 1 d_Mod_letters_3 (by decide) ?_
  refine nw_iadd X d_Mod_letters_4 ?_
  refine nw_istore X (lv' := [(4, _), (3, _), (0, _), (1, _), (2, _)]) d_Mod_letters_5 hl (by decide) rfl (fun ls hl => ?_)
  have LP7 : ∀ (d j res : Nat) (H : Heap) (locs : List Loc) (ls : Array Slot), zz_n z - j < d → (i < j) → (j ≤ zz_n z) → (res = tw_sg (tw_op (zz_n z) r9 w p9 c9 (zz_n z - (i + 1))) r9 w (c9 i) 0 a (i + 1) (j - (i + 1))) → (res < w i) → zz_V z σ s.heap H locs →  lv_has ls 7 [(0, .ref (zz_A z (20, 0))), (1, .int (nI i)), (2, .int (nI a)), (3, .int (nI res)), (4, .int (nI j))] →  W p l e (hw_r 1) s m args below meth c H locs 0 0 Q (F0 m 7 ls []) := by
    intro d
    induction d with
    | zero => intro j res H locs ls hd; exact absurd hd (Nat.not_lt_zero _)
    | succ d IH7 =>
      intro j res H locs ls hd hij hjn hres hrl V hl
      have hB := V.1.2.2
      refine nw_iload X d_Mod_letters_7 (lv_at hl 4 rfl) ?_
      refine nw_aload_n X d_Mod_letters_9 rfl (lv_at hl 0 rfl) ?_
      refine gf_Mod_44 X V (hz (20, 0) rfl) d_Mod_letters_10 ?_
      rw [hn]
      refine nw_icmp_ge X (tgt := 75) d_Mod_letters_13 (by decide) (by first | assumption | omega) (by first | assumption | omega) (fun hj => ?_) (fun hj => ?_)
      · skip
        refine nw_iload_n X d_Mod_letters_75 rfl (lv_at hl 3 rfl) ?_
        exact hret _ _ _ _ _ _ d_Mod_letters_76 V ⟨rfl, by rw [hres, show j - (i + 1) = zz_n z - (i + 1) by omega]; rfl⟩
      · skip
        obtain ⟨erj, ewj, epj, hpj⟩ := hri j hj
        have hqj := mr_lv hR hN hj
        have hcl := hc6 j hij hj
        refine nw_iload_n X d_Mod_letters_16 rfl (lv_at hl 2 rfl) ?_
        refine nw_aload_n X d_Mod_letters_17 rfl (lv_at hl 0 rfl) ?_
        refine gf_Mod_13 X V (hz (20, 0) rfl) d_Mod_letters_18 ?_
        refine nw_iload X d_Mod_letters_21 (lv_at hl 4 rfl) ?_
        refine hw_iald X V (hz (22, 0) rfl) 0 rfl rfl (by omega) (by decide) d_Mod_letters_23 ?_
        rw [ewj]
        refine nw_idiv X (by omega) (by omega) (by omega) d_Mod_letters_24 ?_
        refine nw_aload_n X d_Mod_letters_25 rfl (lv_at hl 0 rfl) ?_
        refine gf_Mod_7 X V (hz (20, 0) rfl) d_Mod_letters_26 ?_
        refine nw_iload X d_Mod_letters_29 (lv_at hl 4 rfl) ?_
        refine hw_iald X V (hz (21, 0) rfl) 0 rfl rfl (by omega) (by decide) d_Mod_letters_31 ?_
        rw [erj]
        refine nw_irem X (by have := Nat.div_le_self a (w j); omega) (by omega) (by omega) d_Mod_letters_32 ?_
        refine nw_istore X (lv' := [(5, _), (0, _), (1, _), (2, _), (3, _), (4, _)]) d_Mod_letters_33 hl (by decide) rfl (fun ls hl => ?_)
        refine nw_iconst X 0 d_Mod_letters_35 (by decide) ?_
        refine nw_istore X (lv' := [(6, _), (5, _), (0, _), (1, _), (2, _), (3, _), (4, _)]) d_Mod_letters_36 hl (by decide) rfl (fun ls hl => ?_)
        have LP38 : ∀ (d k res2 : Nat) (H : Heap) (locs : List Loc) (ls : Array Slot), a / w j % r9 j - k < d → (k ≤ a / w j % r9 j) → (res2 = tw_rp (tw_op (zz_n z) r9 w p9 c9 (zz_n z - (i + 1))) res (c9 i j) k) → (res2 < w i) → zz_V z σ s.heap H locs →  lv_has ls 7 [(0, .ref (zz_A z (20, 0))), (1, .int (nI i)), (2, .int (nI a)), (3, .int (nI res2)), (4, .int (nI j)), (5, .int (nI (a / w j % r9 j))), (6, .int (nI k))] →  W p l e (hw_r 1) s m args below meth c H locs 0 0 Q (F0 m 38 ls []) := by
          intro d
          induction d with
          | zero => intro k res2 H locs ls hd; exact absurd hd (Nat.not_lt_zero _)
          | succ d IH38 =>
            intro k res2 H locs ls hd hke hrs hrl V hl
            have hB := V.1.2.2
            have hmod := Nat.mod_lt (a / w j) (show 0 < r9 j by omega)
            refine nw_iload X d_Mod_letters_38 (lv_at hl 6 rfl) ?_
            refine nw_iload X d_Mod_letters_40 (lv_at hl 5 rfl) ?_
            refine nw_icmp_ge X (tgt := 69) d_Mod_letters_42 (by decide) (by first | assumption | omega) (by first | assumption | omega) (fun hkc => ?_) (fun hkc => ?_)
            · skip
              refine nw_iinc X (lv' := [(4, _), (0, _), (1, _), (2, _), (3, _), (5, _), (6, _)]) (k := 4) 1 d_Mod_letters_69 hl rfl (by decide) (by decide) rfl (fun ls hl => ?_)
              refine nw_goto X (tgt := 7) d_Mod_letters_72 (by decide) ?_
              exact IH7 (j + 1) _ _ _ _ (by omega) (by omega) hj (by rw [hrs, show k = a / w j % r9 j by omega, hres, show j + 1 - (i + 1) = (j - (i + 1)) + 1 by omega]; show _ = tw_rp _ _ (c9 i (i + 1 + (j - (i + 1)))) (a / w (i + 1 + (j - (i + 1))) % r9 (i + 1 + (j - (i + 1)))); rw [show i + 1 + (j - (i + 1)) = j by omega]) hrl V (lv_sub hl [1, 2, 3, 4, 0] rfl)
            · skip
              refine nw_aload_n X d_Mod_letters_45 rfl (lv_at hl 0 rfl) ?_
              refine nw_iload_n X d_Mod_letters_46 rfl (lv_at hl 3 rfl) ?_
              refine nw_aload_n X d_Mod_letters_47 rfl (lv_at hl 0 rfl) ?_
              refine gf_Mod_19 X V (hz (20, 0) rfl) d_Mod_letters_48 ?_
              refine nw_bipush X 7 d_Mod_letters_51 (by decide) ?_
              refine nw_iload_n X d_Mod_letters_53 rfl (lv_at hl 1 rfl) ?_
              refine nw_imul X d_Mod_letters_54 ?_
              refine nw_iload X d_Mod_letters_55 (lv_at hl 4 rfl) ?_
              refine nw_iadd X d_Mod_letters_57 ?_
              refine hw_iald X V (hz (24, 0) rfl) 0 rfl rfl (by omega) (by decide) d_Mod_letters_58 ?_
              rw [(hcj i j hij hj).1]
              refine hw_calli X V (hz (20, 0) rfl) rfl rfl (cm_Mod_of l z σ hz _ _ (by have := hrl; omega) (by have := hcl; omega)) cs_Mod_59 (by decide) rfl hl.1 rfl (Nat.le_of_ble_eq_true rfl) (by decide) d_Mod_letters_59 (fun r σ' H locs V hr => ?_)
              obtain ⟨hσ, rfl⟩ := hr
              rw [hσ] at V
              clear hσ
              have hB := V.1.2.2
              rw [hTi _ _ hrl hcl]
              refine nw_istore_n X (lv' := [(3, _), (0, _), (1, _), (2, _), (4, _), (5, _), (6, _)]) d_Mod_letters_62 rfl hl (by decide) rfl (fun ls hl => ?_)
              refine nw_iinc X (lv' := [(6, _), (3, _), (0, _), (1, _), (2, _), (4, _), (5, _)]) (k := 6) 1 d_Mod_letters_63 hl rfl (by decide) (by decide) rfl (fun ls hl => ?_)
              refine nw_goto X (tgt := 38) d_Mod_letters_66 (by decide) ?_
              exact IH38 (k + 1) _ _ _ _ (by omega) hkc (by rw [hrs]; rfl) (g.lt hrl hcl) V (lv_sub hl [2, 3, 4, 1, 5, 6, 0] rfl)
        exact LP38 (a / w j % r9 j + 1) 0 res _ _ _ (by omega) (Nat.zero_le _) rfl hrl V (lv_sub hl [2, 3, 4, 5, 6, 1, 0] rfl)
  exact LP7 (zz_n z + 1) (i + 1) 0 _ _ _ (by omega) (by omega) hi (by rw [Nat.sub_self]; rfl) g.pos V (lv_sub hl [2, 3, 4, 1, 0] rfl)
set_option maxHeartbeats 4000000 in
set_option maxRecDepth 20000 in
theorem cm_Mod_turns (l : Launch) (z : zz_Z) (σ : hw_M) (hz : ∀ k, zz_k (zz_n z) k → zz_O z k) (hD : md_ok z σ) (r9 w p9 : Nat → Nat) (c9 : Nat → Nat → Nat) (hR : mr_ok z σ r9 w p9 c9) (i : Nat) (hi : i < zz_n z) (hk : tw_ok (zz_n z) r9 w p9 c9 (zz_n z - (i + 1))) (hT : tl_ok z σ r9 w p9 c9 (zz_n z - (i + 1))) (hon : ∀ y, y < w i → σ (26, 0) y = (tb_s (zz_n z) r9 w p9 c9 i) y) : Met l y_Mod_turns (hw_c y_Mod_turns b_Mod_turns 8 (some .boolean)) (hw_r 1) (va_Pc [.ref (zz_A z (20, 0)), .int (nI i)] (zz_B z σ)) (va_Qi (fun r σ' => ∃ b, b < 2 ∧ r = nI b ∧ (fun b σ' => σ' = σ ∧ (b = 1 ↔ tw_ok (zz_n z) r9 w p9 c9 (zz_n z - i))) b σ') (zz_B z) (zz_F z)) 0 0 (zz_F z) := by
  refine hw_metz (post := (fun b σ' => σ' = σ ∧ (b = 1 ↔ tw_ok (zz_n z) r9 w p9 c9 (zz_n z - i)))) (by decide) (Nat.le_of_ble_eq_true rfl) ?_
  intro p e s m args below meth c ls Q X hret V hl
  have hl : lv_has ls 8 [(0, .ref (zz_A z (20, 0))), (1, .int (nI i))] := hl
  have hB := V.1.2.2
  obtain ⟨hn7, hN, hn, hNe, h29, h30, h31⟩ := id hD
  obtain ⟨hw, hsz, hri, hcj⟩ := id hR
  have hq := mr_lv hR hN hi
  have g := tw_gpi hw hi hk
  have hc6 : ∀ j, i < j → j < zz_n z → c9 i j < w i := fun j h1 h2 => (hcj i j h1 h2).2
  have hTi := tl_i hw hi hT
  obtain ⟨er, ew, ep, hp⟩ := hri i hi
  have hsl : ∀ y, (tb_s (zz_n z) r9 w p9 c9 i) y < w i := tb_s_l hw hi hk hc6
  refine nw_aload_n X d_Mod_turns_0 rfl (lv_at hl 0 rfl) ?_
  refine gf_Mod_13 X V (hz (20, 0) rfl) d_Mod_turns_1 ?_
  refine nw_iload_n X d_Mod_turns_4 rfl (lv_at hl 1 rfl) ?_
  refine hw_iald X V (hz (22, 0) rfl) 0 rfl rfl (by omega) (by decide) d_Mod_turns_5 ?_
  rw [ew]
  refine nw_istore_n X (lv' := [(2, _), (0, _), (1, _)]) d_Mod_turns_6 rfl hl (by decide) rfl (fun ls hl => ?_)
  refine nw_aload_n X d_Mod_turns_7 rfl (lv_at hl 1 rfl) ?_
  refine gf_Mod_16 X V (hz (20, 0) rfl) d_Mod_turns_8 ?_
  refine nw_iload_n X d_Mod_turns_11 rfl (lv_at hl 2 rfl) ?_
  refine hw_iald X V (hz (23, 0) rfl) 0 rfl rfl (by omega) (by decide) d_Mod_turns_12 ?_
  rw [ep]
  refine nw_istore_n X (lv' := [(3, _), (2, _), (0, _), (1, _)]) d_Mod_turns_13 rfl hl (by decide) rfl (fun ls hl => ?_)
  refine nw_aload_n X d_Mod_turns_14 rfl (lv_at hl 2 rfl) ?_
  refine gf_Mod_25 X V (hz (20, 0) rfl) d_Mod_turns_15 ?_
  refine nw_iload_n X d_Mod_turns_18 rfl (lv_at hl 0 rfl) ?_
  refine hw_iald X V (hz (26, 0) rfl) 0 rfl rfl (by omega) (by decide) d_Mod_turns_19 ?_
  rw [hon _ hp]
  refine nw_iload_n X d_Mod_turns_20 rfl (lv_at hl 0 rfl) ?_
  refine nw_icmp_ne X (tgt := 28) d_Mod_turns_21 (by decide) (by have := hsl (p9 i); omega) (by omega) (fun hsp => ?_) (fun hsp => ?_)
  · skip
    have hs0 : 0 < 2 := by decide
    have hq0 : 0 = 1 ↔ ((tb_s (zz_n z) r9 w p9 c9 i) (p9 i) = p9 i ∧ ∀ a9, a9 < 0 → (∀ b9, b9 < w i → (tb_s (zz_n z) r9 w p9 c9 i) ((tw_op (zz_n z) r9 w p9 c9 (zz_n z - (i + 1))) a9 b9) = (tw_op (zz_n z) r9 w p9 c9 (zz_n z - (i + 1))) ((tb_s (zz_n z) r9 w p9 c9 i) a9) ((tb_s (zz_n z) r9 w p9 c9 i) b9)) ∧ (tw_op (zz_n z) r9 w p9 c9 (zz_n z - (i + 1))) a9 (p9 i) = (tw_op (zz_n z) r9 w p9 c9 (zz_n z - (i + 1))) (p9 i) (ex_it (tb_s (zz_n z) r9 w p9 c9 i) (r9 i) a9)) := ⟨fun q => absurd q (by decide), fun q => absurd q.1 hsp⟩
    refine nw_iconst X 0 d_Mod_turns_28 (by decide) ?_
    refine nw_istore X (lv' := [(4, _), (3, _), (2, _), (0, _), (1, _)]) d_Mod_turns_29 hl (by decide) rfl (fun ls hl => ?_)
    refine nw_iconst X 0 d_Mod_turns_31 (by decide) ?_
    refine nw_istore X (lv' := [(5, _), (4, _), (3, _), (2, _), (0, _), (1, _)]) d_Mod_turns_32 hl (by decide) rfl (fun ls hl => ?_)
    have LP34 : ∀ (d a g9 : Nat) (H : Heap) (locs : List Loc) (ls : Array Slot), w i - a < d → (a ≤ w i) → (g9 < 2) → (g9 = 1 ↔ ((tb_s (zz_n z) r9 w p9 c9 i) (p9 i) = p9 i ∧ ∀ a9, a9 < a → (∀ b9, b9 < w i → (tb_s (zz_n z) r9 w p9 c9 i) ((tw_op (zz_n z) r9 w p9 c9 (zz_n z - (i + 1))) a9 b9) = (tw_op (zz_n z) r9 w p9 c9 (zz_n z - (i + 1))) ((tb_s (zz_n z) r9 w p9 c9 i) a9) ((tb_s (zz_n z) r9 w p9 c9 i) b9)) ∧ (tw_op (zz_n z) r9 w p9 c9 (zz_n z - (i + 1))) a9 (p9 i) = (tw_op (zz_n z) r9 w p9 c9 (zz_n z - (i + 1))) (p9 i) (ex_it (tb_s (zz_n z) r9 w p9 c9 i) (r9 i) a9))) → zz_V z σ s.heap H locs →  lv_has ls 8 [(0, .ref (zz_A z (20, 0))), (1, .int (nI i)), (2, .int (nI (w i))), (3, .int (nI (p9 i))), (4, .int (nI g9)), (5, .int (nI a))] →  W p l e (hw_r 1) s m args below meth c H locs 0 0 Q (F0 m 34 ls []) := by
      intro d
      induction d with
      | zero => intro a g9 H locs ls hd; exact absurd hd (Nat.not_lt_zero _)
      | succ d IH34 =>
        intro a g9 H locs ls hd haN hg2 hgq V hl
        have hB := V.1.2.2
        refine nw_iload X d_Mod_turns_34 (lv_at hl 5 rfl) ?_
        refine nw_iload_n X d_Mod_turns_36 rfl (lv_at hl 2 rfl) ?_
        refine nw_icmp_ge X (tgt := 173) d_Mod_turns_37 (by decide) (by first | assumption | omega) (by first | assumption | omega) (fun ha => ?_) (fun ha => ?_)
        · skip
          refine nw_iload X d_Mod_turns_173 (lv_at hl 4 rfl) ?_
          exact hret _ _ _ _ _ _ d_Mod_turns_175 V hg2 ⟨rfl, hgq.trans ((show _ ↔ _ from ⟨fun q => ⟨fun a9 b9 h1 h2 => (q.2 a9 (by omega)).1 b9 h2, q.1, fun a9 h1 => (q.2 a9 (by omega)).2⟩, fun q => ⟨q.2.1, fun a9 h1 => ⟨fun b9 h2 => q.1 a9 b9 (by omega) h2, q.2.2 a9 (by omega)⟩⟩⟩).trans (tw_ask2 hw hi hk hp hc6).symm)⟩
        · skip
          refine nw_iconst X 0 d_Mod_turns_40 (by decide) ?_
          refine nw_istore X (lv' := [(6, _), (0, _), (1, _), (2, _), (3, _), (4, _), (5, _)]) d_Mod_turns_41 hl (by decide) rfl (fun ls hl => ?_)
          have LP43 : ∀ (d b h9 : Nat) (H : Heap) (locs : List Loc) (ls : Array Slot), w i - b < d → (b ≤ w i) → (h9 < 2) → (h9 = 1 ↔ (((tb_s (zz_n z) r9 w p9 c9 i) (p9 i) = p9 i ∧ ∀ a9, a9 < a → (∀ b9, b9 < w i → (tb_s (zz_n z) r9 w p9 c9 i) ((tw_op (zz_n z) r9 w p9 c9 (zz_n z - (i + 1))) a9 b9) = (tw_op (zz_n z) r9 w p9 c9 (zz_n z - (i + 1))) ((tb_s (zz_n z) r9 w p9 c9 i) a9) ((tb_s (zz_n z) r9 w p9 c9 i) b9)) ∧ (tw_op (zz_n z) r9 w p9 c9 (zz_n z - (i + 1))) a9 (p9 i) = (tw_op (zz_n z) r9 w p9 c9 (zz_n z - (i + 1))) (p9 i) (ex_it (tb_s (zz_n z) r9 w p9 c9 i) (r9 i) a9)) ∧ ∀ b9, b9 < b → (tb_s (zz_n z) r9 w p9 c9 i) ((tw_op (zz_n z) r9 w p9 c9 (zz_n z - (i + 1))) a b9) = (tw_op (zz_n z) r9 w p9 c9 (zz_n z - (i + 1))) ((tb_s (zz_n z) r9 w p9 c9 i) a) ((tb_s (zz_n z) r9 w p9 c9 i) b9))) → zz_V z σ s.heap H locs →  lv_has ls 8 [(0, .ref (zz_A z (20, 0))), (1, .int (nI i)), (2, .int (nI (w i))), (3, .int (nI (p9 i))), (4, .int (nI h9)), (5, .int (nI a)), (6, .int (nI b))] →  W p l e (hw_r 1) s m args below meth c H locs 0 0 Q (F0 m 43 ls []) := by
            intro d
            induction d with
            | zero => intro b h9 H locs ls hd; exact absurd hd (Nat.not_lt_zero _)
            | succ d IH43 =>
              intro b h9 H locs ls hd hbN hh2 hhq V hl
              have hB := V.1.2.2
              refine nw_iload X d_Mod_turns_43 (lv_at hl 6 rfl) ?_
              refine nw_iload_n X d_Mod_turns_45 rfl (lv_at hl 2 rfl) ?_
              refine nw_icmp_ge X (tgt := 105) d_Mod_turns_46 (by decide) (by first | assumption | omega) (by first | assumption | omega) (fun hb => ?_) (fun hb => ?_)
              · skip
                have hhw : h9 = 1 ↔ (((tb_s (zz_n z) r9 w p9 c9 i) (p9 i) = p9 i ∧ ∀ a9, a9 < a → (∀ b9, b9 < w i → (tb_s (zz_n z) r9 w p9 c9 i) ((tw_op (zz_n z) r9 w p9 c9 (zz_n z - (i + 1))) a9 b9) = (tw_op (zz_n z) r9 w p9 c9 (zz_n z - (i + 1))) ((tb_s (zz_n z) r9 w p9 c9 i) a9) ((tb_s (zz_n z) r9 w p9 c9 i) b9)) ∧ (tw_op (zz_n z) r9 w p9 c9 (zz_n z - (i + 1))) a9 (p9 i) = (tw_op (zz_n z) r9 w p9 c9 (zz_n z - (i + 1))) (p9 i) (ex_it (tb_s (zz_n z) r9 w p9 c9 i) (r9 i) a9)) ∧ ∀ b9, b9 < w i → (tb_s (zz_n z) r9 w p9 c9 i) ((tw_op (zz_n z) r9 w p9 c9 (zz_n z - (i + 1))) a b9) = (tw_op (zz_n z) r9 w p9 c9 (zz_n z - (i + 1))) ((tb_s (zz_n z) r9 w p9 c9 i) a) ((tb_s (zz_n z) r9 w p9 c9 i) b9)) := hhq.trans ⟨fun q => ⟨q.1, fun b9 h => q.2 b9 (by omega)⟩, fun q => ⟨q.1, fun b9 h => q.2 b9 (by omega)⟩⟩
                refine nw_iload X d_Mod_turns_105 (lv_at hl 5 rfl) ?_
                refine nw_istore X (lv' := [(6, _), (0, _), (1, _), (2, _), (3, _), (4, _), (5, _)]) d_Mod_turns_107 hl (by decide) rfl (fun ls hl => ?_)
                refine nw_iconst X 0 d_Mod_turns_109 (by decide) ?_
                refine nw_istore X (lv' := [(7, _), (6, _), (0, _), (1, _), (2, _), (3, _), (4, _), (5, _)]) d_Mod_turns_110 hl (by decide) rfl (fun ls hl => ?_)
                have LP112 : ∀ (d k x : Nat) (H : Heap) (locs : List Loc) (ls : Array Slot), r9 i - k < d → (k ≤ r9 i) → (x = ex_it (tb_s (zz_n z) r9 w p9 c9 i) k a) → (x < w i) → zz_V z σ s.heap H locs →  lv_has ls 8 [(0, .ref (zz_A z (20, 0))), (1, .int (nI i)), (2, .int (nI (w i))), (3, .int (nI (p9 i))), (4, .int (nI h9)), (5, .int (nI a)), (6, .int (nI x)), (7, .int (nI k))] →  W p l e (hw_r 1) s m args below meth c H locs 0 0 Q (F0 m 112 ls []) := by
                  intro d
                  induction d with
                  | zero => intro k x H locs ls hd; exact absurd hd (Nat.not_lt_zero _)
                  | succ d IH112 =>
                    intro k x H locs ls hd hkr hxe hxl V hl
                    have hB := V.1.2.2
                    refine nw_iload X d_Mod_turns_112 (lv_at hl 7 rfl) ?_
                    refine nw_aload_n X d_Mod_turns_114 rfl (lv_at hl 0 rfl) ?_
                    refine gf_Mod_7 X V (hz (20, 0) rfl) d_Mod_turns_115 ?_
                    refine nw_iload_n X d_Mod_turns_118 rfl (lv_at hl 1 rfl) ?_
                    refine hw_iald X V (hz (21, 0) rfl) 0 rfl rfl (by omega) (by decide) d_Mod_turns_119 ?_
                    rw [er]
                    refine nw_icmp_ge X (tgt := 138) d_Mod_turns_120 (by decide) (by first | assumption | omega) (by first | assumption | omega) (fun hkc => ?_) (fun hkc => ?_)
                    · skip
                      have hxr : x = ex_it (tb_s (zz_n z) r9 w p9 c9 i) (r9 i) a := by rw [hxe, show k = r9 i by omega]
                      refine nw_iload X d_Mod_turns_138 (lv_at hl 4 rfl) ?_
                      refine nw_if_eq X (tgt := 164) d_Mod_turns_140 (by decide) (by omega) (fun hh1 => ?_) (fun hh1 => ?_)
                      · skip
                        have hs3 : 0 < 2 := by decide
                        have hq3 : 0 = 1 ↔ ((tb_s (zz_n z) r9 w p9 c9 i) (p9 i) = p9 i ∧ ∀ a9, a9 < (a + 1) → (∀ b9, b9 < w i → (tb_s (zz_n z) r9 w p9 c9 i) ((tw_op (zz_n z) r9 w p9 c9 (zz_n z - (i + 1))) a9 b9) = (tw_op (zz_n z) r9 w p9 c9 (zz_n z - (i + 1))) ((tb_s (zz_n z) r9 w p9 c9 i) a9) ((tb_s (zz_n z) r9 w p9 c9 i) b9)) ∧ (tw_op (zz_n z) r9 w p9 c9 (zz_n z - (i + 1))) a9 (p9 i) = (tw_op (zz_n z) r9 w p9 c9 (zz_n z - (i + 1))) (p9 i) (ex_it (tb_s (zz_n z) r9 w p9 c9 i) (r9 i) a9)) := ⟨fun q => absurd q (by decide), fun q => by have := hhw.mpr ⟨⟨q.1, fun a9 h => q.2 a9 (by omega)⟩, (q.2 a (by omega)).1⟩; omega⟩
                        refine nw_iconst X 0 d_Mod_turns_164 (by decide) ?_
                        refine nw_istore X (lv' := [(4, _), (0, _), (1, _), (2, _), (3, _), (5, _), (6, _), (7, _)]) d_Mod_turns_165 hl (by decide) rfl (fun ls hl => ?_)
                        refine nw_iinc X (lv' := [(5, _), (4, _), (0, _), (1, _), (2, _), (3, _), (6, _), (7, _)]) (k := 5) 1 d_Mod_turns_167 hl rfl (by decide) (by decide) rfl (fun ls hl => ?_)
                        refine nw_goto X (tgt := 34) d_Mod_turns_170 (by decide) ?_
                        exact IH34 (a + 1) _ _ _ _ (by omega) ha hs3 hq3 V (lv_sub hl [2, 3, 4, 5, 1, 0] rfl)
                      · skip
                        refine nw_aload_n X d_Mod_turns_143 rfl (lv_at hl 0 rfl) ?_
                        refine nw_iload X d_Mod_turns_144 (lv_at hl 5 rfl) ?_
                        refine nw_iload_n X d_Mod_turns_146 rfl (lv_at hl 3 rfl) ?_
                        refine hw_calli X V (hz (20, 0) rfl) rfl rfl (cm_Mod_of l z σ hz _ _ (by have := ha; omega) (by have := hp; omega)) cs_Mod_59 (by decide) rfl hl.1 rfl (Nat.le_of_ble_eq_true rfl) (by decide) d_Mod_turns_147 (fun r σ' H locs V hr => ?_)
                        obtain ⟨hσ, rfl⟩ := hr
                        rw [hσ] at V
                        clear hσ
                        have hB := V.1.2.2
                        rw [hTi _ _ ha hp]
                        refine nw_aload_n X d_Mod_turns_150 rfl (lv_at hl 0 rfl) ?_
                        refine nw_iload_n X d_Mod_turns_151 rfl (lv_at hl 3 rfl) ?_
                        refine nw_iload X d_Mod_turns_152 (lv_at hl 6 rfl) ?_
                        refine hw_calli X V (hz (20, 0) rfl) rfl rfl (cm_Mod_of l z σ hz _ _ (by have := hp; omega) (by have := hxl; omega)) cs_Mod_59 (by decide) rfl hl.1 rfl (Nat.le_of_ble_eq_true rfl) (by decide) d_Mod_turns_154 (fun r σ' H locs V hr => ?_)
                        obtain ⟨hσ, rfl⟩ := hr
                        rw [hσ] at V
                        clear hσ
                        have hB := V.1.2.2
                        rw [hTi _ _ hp hxl]
                        refine nw_icmp_ne X (tgt := 164) d_Mod_turns_157 (by decide) (by have := g.lt ha hp; omega) (by have := g.lt hp hxl; omega) (fun hne => ?_) (fun hne => ?_)
                        · skip
                          have hs3 : 0 < 2 := by decide
                          have hq3 : 0 = 1 ↔ ((tb_s (zz_n z) r9 w p9 c9 i) (p9 i) = p9 i ∧ ∀ a9, a9 < (a + 1) → (∀ b9, b9 < w i → (tb_s (zz_n z) r9 w p9 c9 i) ((tw_op (zz_n z) r9 w p9 c9 (zz_n z - (i + 1))) a9 b9) = (tw_op (zz_n z) r9 w p9 c9 (zz_n z - (i + 1))) ((tb_s (zz_n z) r9 w p9 c9 i) a9) ((tb_s (zz_n z) r9 w p9 c9 i) b9)) ∧ (tw_op (zz_n z) r9 w p9 c9 (zz_n z - (i + 1))) a9 (p9 i) = (tw_op (zz_n z) r9 w p9 c9 (zz_n z - (i + 1))) (p9 i) (ex_it (tb_s (zz_n z) r9 w p9 c9 i) (r9 i) a9)) := ⟨fun q => absurd q (by decide), fun q => absurd (by rw [hxr]; exact (q.2 a (by omega)).2) hne⟩
                          refine nw_iconst X 0 d_Mod_turns_164 (by decide) ?_
                          refine nw_istore X (lv' := [(4, _), (0, _), (1, _), (2, _), (3, _), (5, _), (6, _), (7, _)]) d_Mod_turns_165 hl (by decide) rfl (fun ls hl => ?_)
                          refine nw_iinc X (lv' := [(5, _), (4, _), (0, _), (1, _), (2, _), (3, _), (6, _), (7, _)]) (k := 5) 1 d_Mod_turns_167 hl rfl (by decide) (by decide) rfl (fun ls hl => ?_)
                          refine nw_goto X (tgt := 34) d_Mod_turns_170 (by decide) ?_
                          exact IH34 (a + 1) _ _ _ _ (by omega) ha hs3 hq3 V (lv_sub hl [2, 3, 4, 5, 1, 0] rfl)
                        · skip
                          have hs3 : 1 < 2 := by decide
                          have hq3 : 1 = 1 ↔ ((tb_s (zz_n z) r9 w p9 c9 i) (p9 i) = p9 i ∧ ∀ a9, a9 < (a + 1) → (∀ b9, b9 < w i → (tb_s (zz_n z) r9 w p9 c9 i) ((tw_op (zz_n z) r9 w p9 c9 (zz_n z - (i + 1))) a9 b9) = (tw_op (zz_n z) r9 w p9 c9 (zz_n z - (i + 1))) ((tb_s (zz_n z) r9 w p9 c9 i) a9) ((tb_s (zz_n z) r9 w p9 c9 i) b9)) ∧ (tw_op (zz_n z) r9 w p9 c9 (zz_n z - (i + 1))) a9 (p9 i) = (tw_op (zz_n z) r9 w p9 c9 (zz_n z - (i + 1))) (p9 i) (ex_it (tb_s (zz_n z) r9 w p9 c9 i) (r9 i) a9)) := ⟨fun _ => ⟨(hhw.mp (by omega)).1.1, fun a9 h => by by_cases e : a9 = a; rw [e]; exact ⟨(hhw.mp (by omega)).2, by rw [← hxr]; exact hne⟩; exact (hhw.mp (by omega)).1.2 a9 (by omega)⟩, fun _ => rfl⟩
                          refine nw_iconst X 1 d_Mod_turns_160 (by decide) ?_
                          refine nw_goto X (tgt := 165) d_Mod_turns_161 (by decide) ?_
                          refine nw_istore X (lv' := [(4, _), (0, _), (1, _), (2, _), (3, _), (5, _), (6, _), (7, _)]) d_Mod_turns_165 hl (by decide) rfl (fun ls hl => ?_)
                          refine nw_iinc X (lv' := [(5, _), (4, _), (0, _), (1, _), (2, _), (3, _), (6, _), (7, _)]) (k := 5) 1 d_Mod_turns_167 hl rfl (by decide) (by decide) rfl (fun ls hl => ?_)
                          refine nw_goto X (tgt := 34) d_Mod_turns_170 (by decide) ?_
                          exact IH34 (a + 1) _ _ _ _ (by omega) ha hs3 hq3 V (lv_sub hl [2, 3, 4, 5, 1, 0] rfl)
                    · skip
                      refine nw_aload_n X d_Mod_turns_123 rfl (lv_at hl 0 rfl) ?_
                      refine gf_Mod_25 X V (hz (20, 0) rfl) d_Mod_turns_124 ?_
                      refine nw_iload X d_Mod_turns_127 (lv_at hl 6 rfl) ?_
                      refine hw_iald X V (hz (26, 0) rfl) 0 rfl rfl (by omega) (by decide) d_Mod_turns_129 ?_
                      rw [hon _ hxl]
                      refine nw_istore X (lv' := [(6, _), (0, _), (1, _), (2, _), (3, _), (4, _), (5, _), (7, _)]) d_Mod_turns_130 hl (by decide) rfl (fun ls hl => ?_)
                      refine nw_iinc X (lv' := [(7, _), (6, _), (0, _), (1, _), (2, _), (3, _), (4, _), (5, _)]) (k := 7) 1 d_Mod_turns_132 hl rfl (by decide) (by decide) rfl (fun ls hl => ?_)
                      refine nw_goto X (tgt := 112) d_Mod_turns_135 (by decide) ?_
                      exact IH112 (k + 1) _ _ _ _ (by omega) hkc (by rw [hxe]; rfl) (hsl x) V (lv_sub hl [2, 3, 4, 5, 6, 7, 1, 0] rfl)
                exact LP112 (r9 i + 1) 0 a _ _ _ (by omega) (Nat.zero_le _) rfl ha V (lv_sub hl [2, 3, 4, 5, 6, 7, 1, 0] rfl)
              · skip
                refine nw_iload X d_Mod_turns_49 (lv_at hl 4 rfl) ?_
                refine nw_if_eq X (tgt := 105) d_Mod_turns_51 (by decide) (by omega) (fun hh0 => ?_) (fun hh0 => ?_)
                · skip
                  have hhw : h9 = 1 ↔ (((tb_s (zz_n z) r9 w p9 c9 i) (p9 i) = p9 i ∧ ∀ a9, a9 < a → (∀ b9, b9 < w i → (tb_s (zz_n z) r9 w p9 c9 i) ((tw_op (zz_n z) r9 w p9 c9 (zz_n z - (i + 1))) a9 b9) = (tw_op (zz_n z) r9 w p9 c9 (zz_n z - (i + 1))) ((tb_s (zz_n z) r9 w p9 c9 i) a9) ((tb_s (zz_n z) r9 w p9 c9 i) b9)) ∧ (tw_op (zz_n z) r9 w p9 c9 (zz_n z - (i + 1))) a9 (p9 i) = (tw_op (zz_n z) r9 w p9 c9 (zz_n z - (i + 1))) (p9 i) (ex_it (tb_s (zz_n z) r9 w p9 c9 i) (r9 i) a9)) ∧ ∀ b9, b9 < w i → (tb_s (zz_n z) r9 w p9 c9 i) ((tw_op (zz_n z) r9 w p9 c9 (zz_n z - (i + 1))) a b9) = (tw_op (zz_n z) r9 w p9 c9 (zz_n z - (i + 1))) ((tb_s (zz_n z) r9 w p9 c9 i) a) ((tb_s (zz_n z) r9 w p9 c9 i) b9)) := ⟨fun q => by omega, fun q => by have := hhq.mpr ⟨q.1, fun b9 h => q.2 b9 (by omega)⟩; omega⟩
                  refine nw_iload X d_Mod_turns_105 (lv_at hl 5 rfl) ?_
                  refine nw_istore X (lv' := [(6, _), (0, _), (1, _), (2, _), (3, _), (4, _), (5, _)]) d_Mod_turns_107 hl (by decide) rfl (fun ls hl => ?_)
                  refine nw_iconst X 0 d_Mod_turns_109 (by decide) ?_
                  refine nw_istore X (lv' := [(7, _), (6, _), (0, _), (1, _), (2, _), (3, _), (4, _), (5, _)]) d_Mod_turns_110 hl (by decide) rfl (fun ls hl => ?_)
                  have LP112 : ∀ (d k x : Nat) (H : Heap) (locs : List Loc) (ls : Array Slot), r9 i - k < d → (k ≤ r9 i) → (x = ex_it (tb_s (zz_n z) r9 w p9 c9 i) k a) → (x < w i) → zz_V z σ s.heap H locs →  lv_has ls 8 [(0, .ref (zz_A z (20, 0))), (1, .int (nI i)), (2, .int (nI (w i))), (3, .int (nI (p9 i))), (4, .int (nI h9)), (5, .int (nI a)), (6, .int (nI x)), (7, .int (nI k))] →  W p l e (hw_r 1) s m args below meth c H locs 0 0 Q (F0 m 112 ls []) := by
                    intro d
                    induction d with
                    | zero => intro k x H locs ls hd; exact absurd hd (Nat.not_lt_zero _)
                    | succ d IH112 =>
                      intro k x H locs ls hd hkr hxe hxl V hl
                      have hB := V.1.2.2
                      refine nw_iload X d_Mod_turns_112 (lv_at hl 7 rfl) ?_
                      refine nw_aload_n X d_Mod_turns_114 rfl (lv_at hl 0 rfl) ?_
                      refine gf_Mod_7 X V (hz (20, 0) rfl) d_Mod_turns_115 ?_
                      refine nw_iload_n X d_Mod_turns_118 rfl (lv_at hl 1 rfl) ?_
                      refine hw_iald X V (hz (21, 0) rfl) 0 rfl rfl (by omega) (by decide) d_Mod_turns_119 ?_
                      rw [er]
                      refine nw_icmp_ge X (tgt := 138) d_Mod_turns_120 (by decide) (by first | assumption | omega) (by first | assumption | omega) (fun hkc => ?_) (fun hkc => ?_)
                      · skip
                        have hxr : x = ex_it (tb_s (zz_n z) r9 w p9 c9 i) (r9 i) a := by rw [hxe, show k = r9 i by omega]
                        refine nw_iload X d_Mod_turns_138 (lv_at hl 4 rfl) ?_
                        refine nw_if_eq X (tgt := 164) d_Mod_turns_140 (by decide) (by omega) (fun hh1 => ?_) (fun hh1 => ?_)
                        · skip
                          have hs3 : 0 < 2 := by decide
                          have hq3 : 0 = 1 ↔ ((tb_s (zz_n z) r9 w p9 c9 i) (p9 i) = p9 i ∧ ∀ a9, a9 < (a + 1) → (∀ b9, b9 < w i → (tb_s (zz_n z) r9 w p9 c9 i) ((tw_op (zz_n z) r9 w p9 c9 (zz_n z - (i + 1))) a9 b9) = (tw_op (zz_n z) r9 w p9 c9 (zz_n z - (i + 1))) ((tb_s (zz_n z) r9 w p9 c9 i) a9) ((tb_s (zz_n z) r9 w p9 c9 i) b9)) ∧ (tw_op (zz_n z) r9 w p9 c9 (zz_n z - (i + 1))) a9 (p9 i) = (tw_op (zz_n z) r9 w p9 c9 (zz_n z - (i + 1))) (p9 i) (ex_it (tb_s (zz_n z) r9 w p9 c9 i) (r9 i) a9)) := ⟨fun q => absurd q (by decide), fun q => by have := hhw.mpr ⟨⟨q.1, fun a9 h => q.2 a9 (by omega)⟩, (q.2 a (by omega)).1⟩; omega⟩
                          refine nw_iconst X 0 d_Mod_turns_164 (by decide) ?_
                          refine nw_istore X (lv' := [(4, _), (0, _), (1, _), (2, _), (3, _), (5, _), (6, _), (7, _)]) d_Mod_turns_165 hl (by decide) rfl (fun ls hl => ?_)
                          refine nw_iinc X (lv' := [(5, _), (4, _), (0, _), (1, _), (2, _), (3, _), (6, _), (7, _)]) (k := 5) 1 d_Mod_turns_167 hl rfl (by decide) (by decide) rfl (fun ls hl => ?_)
                          refine nw_goto X (tgt := 34) d_Mod_turns_170 (by decide) ?_
                          exact IH34 (a + 1) _ _ _ _ (by omega) ha hs3 hq3 V (lv_sub hl [2, 3, 4, 5, 1, 0] rfl)
                        · skip
                          refine nw_aload_n X d_Mod_turns_143 rfl (lv_at hl 0 rfl) ?_
                          refine nw_iload X d_Mod_turns_144 (lv_at hl 5 rfl) ?_
                          refine nw_iload_n X d_Mod_turns_146 rfl (lv_at hl 3 rfl) ?_
                          refine hw_calli X V (hz (20, 0) rfl) rfl rfl (cm_Mod_of l z σ hz _ _ (by have := ha; omega) (by have := hp; omega)) cs_Mod_59 (by decide) rfl hl.1 rfl (Nat.le_of_ble_eq_true rfl) (by decide) d_Mod_turns_147 (fun r σ' H locs V hr => ?_)
                          obtain ⟨hσ, rfl⟩ := hr
                          rw [hσ] at V
                          clear hσ
                          have hB := V.1.2.2
                          rw [hTi _ _ ha hp]
                          refine nw_aload_n X d_Mod_turns_150 rfl (lv_at hl 0 rfl) ?_
                          refine nw_iload_n X d_Mod_turns_151 rfl (lv_at hl 3 rfl) ?_
                          refine nw_iload X d_Mod_turns_152 (lv_at hl 6 rfl) ?_
                          refine hw_calli X V (hz (20, 0) rfl) rfl rfl (cm_Mod_of l z σ hz _ _ (by have := hp; omega) (by have := hxl; omega)) cs_Mod_59 (by decide) rfl hl.1 rfl (Nat.le_of_ble_eq_true rfl) (by decide) d_Mod_turns_154 (fun r σ' H locs V hr => ?_)
                          obtain ⟨hσ, rfl⟩ := hr
                          rw [hσ] at V
                          clear hσ
                          have hB := V.1.2.2
                          rw [hTi _ _ hp hxl]
                          refine nw_icmp_ne X (tgt := 164) d_Mod_turns_157 (by decide) (by have := g.lt ha hp; omega) (by have := g.lt hp hxl; omega) (fun hne => ?_) (fun hne => ?_)
                          · skip
                            have hs3 : 0 < 2 := by decide
                            have hq3 : 0 = 1 ↔ ((tb_s (zz_n z) r9 w p9 c9 i) (p9 i) = p9 i ∧ ∀ a9, a9 < (a + 1) → (∀ b9, b9 < w i → (tb_s (zz_n z) r9 w p9 c9 i) ((tw_op (zz_n z) r9 w p9 c9 (zz_n z - (i + 1))) a9 b9) = (tw_op (zz_n z) r9 w p9 c9 (zz_n z - (i + 1))) ((tb_s (zz_n z) r9 w p9 c9 i) a9) ((tb_s (zz_n z) r9 w p9 c9 i) b9)) ∧ (tw_op (zz_n z) r9 w p9 c9 (zz_n z - (i + 1))) a9 (p9 i) = (tw_op (zz_n z) r9 w p9 c9 (zz_n z - (i + 1))) (p9 i) (ex_it (tb_s (zz_n z) r9 w p9 c9 i) (r9 i) a9)) := ⟨fun q => absurd q (by decide), fun q => absurd (by rw [hxr]; exact (q.2 a (by omega)).2) hne⟩
                            refine nw_iconst X 0 d_Mod_turns_164 (by decide) ?_
                            refine nw_istore X (lv' := [(4, _), (0, _), (1, _), (2, _), (3, _), (5, _), (6, _), (7, _)]) d_Mod_turns_165 hl (by decide) rfl (fun ls hl => ?_)
                            refine nw_iinc X (lv' := [(5, _), (4, _), (0, _), (1, _), (2, _), (3, _), (6, _), (7, _)]) (k := 5) 1 d_Mod_turns_167 hl rfl (by decide) (by decide) rfl (fun ls hl => ?_)
                            refine nw_goto X (tgt := 34) d_Mod_turns_170 (by decide) ?_
                            exact IH34 (a + 1) _ _ _ _ (by omega) ha hs3 hq3 V (lv_sub hl [2, 3, 4, 5, 1, 0] rfl)
                          · skip
                            have hs3 : 1 < 2 := by decide
                            have hq3 : 1 = 1 ↔ ((tb_s (zz_n z) r9 w p9 c9 i) (p9 i) = p9 i ∧ ∀ a9, a9 < (a + 1) → (∀ b9, b9 < w i → (tb_s (zz_n z) r9 w p9 c9 i) ((tw_op (zz_n z) r9 w p9 c9 (zz_n z - (i + 1))) a9 b9) = (tw_op (zz_n z) r9 w p9 c9 (zz_n z - (i + 1))) ((tb_s (zz_n z) r9 w p9 c9 i) a9) ((tb_s (zz_n z) r9 w p9 c9 i) b9)) ∧ (tw_op (zz_n z) r9 w p9 c9 (zz_n z - (i + 1))) a9 (p9 i) = (tw_op (zz_n z) r9 w p9 c9 (zz_n z - (i + 1))) (p9 i) (ex_it (tb_s (zz_n z) r9 w p9 c9 i) (r9 i) a9)) := ⟨fun _ => ⟨(hhw.mp (by omega)).1.1, fun a9 h => by by_cases e : a9 = a; rw [e]; exact ⟨(hhw.mp (by omega)).2, by rw [← hxr]; exact hne⟩; exact (hhw.mp (by omega)).1.2 a9 (by omega)⟩, fun _ => rfl⟩
                            refine nw_iconst X 1 d_Mod_turns_160 (by decide) ?_
                            refine nw_goto X (tgt := 165) d_Mod_turns_161 (by decide) ?_
                            refine nw_istore X (lv' := [(4, _), (0, _), (1, _), (2, _), (3, _), (5, _), (6, _), (7, _)]) d_Mod_turns_165 hl (by decide) rfl (fun ls hl => ?_)
                            refine nw_iinc X (lv' := [(5, _), (4, _), (0, _), (1, _), (2, _), (3, _), (6, _), (7, _)]) (k := 5) 1 d_Mod_turns_167 hl rfl (by decide) (by decide) rfl (fun ls hl => ?_)
                            refine nw_goto X (tgt := 34) d_Mod_turns_170 (by decide) ?_
                            exact IH34 (a + 1) _ _ _ _ (by omega) ha hs3 hq3 V (lv_sub hl [2, 3, 4, 5, 1, 0] rfl)
                      · skip
                        refine nw_aload_n X d_Mod_turns_123 rfl (lv_at hl 0 rfl) ?_
                        refine gf_Mod_25 X V (hz (20, 0) rfl) d_Mod_turns_124 ?_
                        refine nw_iload X d_Mod_turns_127 (lv_at hl 6 rfl) ?_
                        refine hw_iald X V (hz (26, 0) rfl) 0 rfl rfl (by omega) (by decide) d_Mod_turns_129 ?_
                        rw [hon _ hxl]
                        refine nw_istore X (lv' := [(6, _), (0, _), (1, _), (2, _), (3, _), (4, _), (5, _), (7, _)]) d_Mod_turns_130 hl (by decide) rfl (fun ls hl => ?_)
                        refine nw_iinc X (lv' := [(7, _), (6, _), (0, _), (1, _), (2, _), (3, _), (4, _), (5, _)]) (k := 7) 1 d_Mod_turns_132 hl rfl (by decide) (by decide) rfl (fun ls hl => ?_)
                        refine nw_goto X (tgt := 112) d_Mod_turns_135 (by decide) ?_
                        exact IH112 (k + 1) _ _ _ _ (by omega) hkc (by rw [hxe]; rfl) (hsl x) V (lv_sub hl [2, 3, 4, 5, 6, 7, 1, 0] rfl)
                  exact LP112 (r9 i + 1) 0 a _ _ _ (by omega) (Nat.zero_le _) rfl ha V (lv_sub hl [2, 3, 4, 5, 6, 7, 1, 0] rfl)
                · skip
                  have hol := g.lt ha hb
                  refine nw_aload_n X d_Mod_turns_54 rfl (lv_at hl 0 rfl) ?_
                  refine nw_iload X d_Mod_turns_55 (lv_at hl 5 rfl) ?_
                  refine nw_iload X d_Mod_turns_57 (lv_at hl 6 rfl) ?_
                  refine hw_calli X V (hz (20, 0) rfl) rfl rfl (cm_Mod_of l z σ hz _ _ (by have := ha; omega) (by have := hb; omega)) cs_Mod_59 (by decide) rfl hl.1 rfl (Nat.le_of_ble_eq_true rfl) (by decide) d_Mod_turns_59 (fun r σ' H locs V hr => ?_)
                  obtain ⟨hσ, rfl⟩ := hr
                  rw [hσ] at V
                  clear hσ
                  have hB := V.1.2.2
                  rw [hTi _ _ ha hb]
                  refine nw_istore X (lv' := [(7, _), (0, _), (1, _), (2, _), (3, _), (4, _), (5, _), (6, _)]) d_Mod_turns_62 hl (by decide) rfl (fun ls hl => ?_)
                  refine nw_aload_n X d_Mod_turns_64 rfl (lv_at hl 1 rfl) ?_
                  refine gf_Mod_25 X V (hz (20, 0) rfl) d_Mod_turns_65 ?_
                  refine nw_iload X d_Mod_turns_68 (lv_at hl 0 rfl) ?_
                  refine hw_iald X V (hz (26, 0) rfl) 0 rfl rfl (by omega) (by decide) d_Mod_turns_70 ?_
                  rw [hon _ hol]
                  refine nw_aload_n X d_Mod_turns_71 rfl (lv_at hl 1 rfl) ?_
                  refine nw_aload_n X d_Mod_turns_72 rfl (lv_at hl 1 rfl) ?_
                  refine gf_Mod_25 X V (hz (20, 0) rfl) d_Mod_turns_73 ?_
                  refine nw_iload X d_Mod_turns_76 (lv_at hl 6 rfl) ?_
                  refine hw_iald X V (hz (26, 0) rfl) 0 rfl rfl (by omega) (by decide) d_Mod_turns_78 ?_
                  rw [hon _ ha]
                  refine nw_aload_n X d_Mod_turns_79 rfl (lv_at hl 1 rfl) ?_
                  refine gf_Mod_25 X V (hz (20, 0) rfl) d_Mod_turns_80 ?_
                  refine nw_iload X d_Mod_turns_83 (lv_at hl 7 rfl) ?_
                  refine hw_iald X V (hz (26, 0) rfl) 0 rfl rfl (by omega) (by decide) d_Mod_turns_85 ?_
                  rw [hon _ hb]
                  refine hw_calli X V (hz (20, 0) rfl) rfl rfl (cm_Mod_of l z σ hz _ _ (by have := (hsl a); omega) (by have := (hsl b); omega)) cs_Mod_59 (by decide) rfl hl.1 rfl (Nat.le_of_ble_eq_true rfl) (by decide) d_Mod_turns_86 (fun r σ' H locs V hr => ?_)
                  obtain ⟨hσ, rfl⟩ := hr
                  rw [hσ] at V
                  clear hσ
                  have hB := V.1.2.2
                  rw [hTi _ _ (hsl a) (hsl b)]
                  refine nw_icmp_ne X (tgt := 96) d_Mod_turns_89 (by decide) (by have := hsl ((tw_op (zz_n z) r9 w p9 c9 (zz_n z - (i + 1))) a b); omega) (by have := g.lt (hsl a) (hsl b); omega) (fun hne => ?_) (fun hne => ?_)
                  · skip
                    have hs1 : 0 < 2 := by decide
                    have hq1 : 0 = 1 ↔ (((tb_s (zz_n z) r9 w p9 c9 i) (p9 i) = p9 i ∧ ∀ a9, a9 < a → (∀ b9, b9 < w i → (tb_s (zz_n z) r9 w p9 c9 i) ((tw_op (zz_n z) r9 w p9 c9 (zz_n z - (i + 1))) a9 b9) = (tw_op (zz_n z) r9 w p9 c9 (zz_n z - (i + 1))) ((tb_s (zz_n z) r9 w p9 c9 i) a9) ((tb_s (zz_n z) r9 w p9 c9 i) b9)) ∧ (tw_op (zz_n z) r9 w p9 c9 (zz_n z - (i + 1))) a9 (p9 i) = (tw_op (zz_n z) r9 w p9 c9 (zz_n z - (i + 1))) (p9 i) (ex_it (tb_s (zz_n z) r9 w p9 c9 i) (r9 i) a9)) ∧ ∀ b9, b9 < b + 1 → (tb_s (zz_n z) r9 w p9 c9 i) ((tw_op (zz_n z) r9 w p9 c9 (zz_n z - (i + 1))) a b9) = (tw_op (zz_n z) r9 w p9 c9 (zz_n z - (i + 1))) ((tb_s (zz_n z) r9 w p9 c9 i) a) ((tb_s (zz_n z) r9 w p9 c9 i) b9)) := ⟨fun q => absurd q (by decide), fun q => absurd (q.2 b (by omega)) hne⟩
                    refine nw_iconst X 0 d_Mod_turns_96 (by decide) ?_
                    refine nw_istore X (lv' := [(4, _), (7, _), (0, _), (1, _), (2, _), (3, _), (5, _), (6, _)]) d_Mod_turns_97 hl (by decide) rfl (fun ls hl => ?_)
                    refine nw_iinc X (lv' := [(6, _), (4, _), (7, _), (0, _), (1, _), (2, _), (3, _), (5, _)]) (k := 7) 1 d_Mod_turns_99 hl rfl (by decide) (by decide) rfl (fun ls hl => ?_)
                    refine nw_goto X (tgt := 43) d_Mod_turns_102 (by decide) ?_
                    exact IH43 (b + 1) _ _ _ _ (by omega) hb hs1 hq1 V (lv_sub hl [3, 4, 5, 6, 1, 7, 0] rfl)
                  · skip
                    have hs1 : 1 < 2 := by decide
                    have hq1 : 1 = 1 ↔ (((tb_s (zz_n z) r9 w p9 c9 i) (p9 i) = p9 i ∧ ∀ a9, a9 < a → (∀ b9, b9 < w i → (tb_s (zz_n z) r9 w p9 c9 i) ((tw_op (zz_n z) r9 w p9 c9 (zz_n z - (i + 1))) a9 b9) = (tw_op (zz_n z) r9 w p9 c9 (zz_n z - (i + 1))) ((tb_s (zz_n z) r9 w p9 c9 i) a9) ((tb_s (zz_n z) r9 w p9 c9 i) b9)) ∧ (tw_op (zz_n z) r9 w p9 c9 (zz_n z - (i + 1))) a9 (p9 i) = (tw_op (zz_n z) r9 w p9 c9 (zz_n z - (i + 1))) (p9 i) (ex_it (tb_s (zz_n z) r9 w p9 c9 i) (r9 i) a9)) ∧ ∀ b9, b9 < b + 1 → (tb_s (zz_n z) r9 w p9 c9 i) ((tw_op (zz_n z) r9 w p9 c9 (zz_n z - (i + 1))) a b9) = (tw_op (zz_n z) r9 w p9 c9 (zz_n z - (i + 1))) ((tb_s (zz_n z) r9 w p9 c9 i) a) ((tb_s (zz_n z) r9 w p9 c9 i) b9)) := ⟨fun _ => ⟨(hhq.mp (by omega)).1, fun b9 h => by by_cases e : b9 = b; rw [e]; exact hne; exact (hhq.mp (by omega)).2 b9 (by omega)⟩, fun _ => rfl⟩
                    refine nw_iconst X 1 d_Mod_turns_92 (by decide) ?_
                    refine nw_goto X (tgt := 97) d_Mod_turns_93 (by decide) ?_
                    refine nw_istore X (lv' := [(4, _), (7, _), (0, _), (1, _), (2, _), (3, _), (5, _), (6, _)]) d_Mod_turns_97 hl (by decide) rfl (fun ls hl => ?_)
                    refine nw_iinc X (lv' := [(6, _), (4, _), (7, _), (0, _), (1, _), (2, _), (3, _), (5, _)]) (k := 7) 1 d_Mod_turns_99 hl rfl (by decide) (by decide) rfl (fun ls hl => ?_)
                    refine nw_goto X (tgt := 43) d_Mod_turns_102 (by decide) ?_
                    exact IH43 (b + 1) _ _ _ _ (by omega) hb hs1 hq1 V (lv_sub hl [3, 4, 5, 6, 1, 7, 0] rfl)
          exact LP43 (w i + 1) 0 g9 _ _ _ (by omega) (Nat.zero_le _) hg2 (hgq.trans ⟨fun q => ⟨q, fun b9 h => absurd h (Nat.not_lt_zero _)⟩, fun q => q.1⟩) V (lv_sub hl [1, 2, 3, 4, 5, 6, 0] rfl)
    exact LP34 (w i + 1) 0 _ _ _ _ (by omega) (Nat.zero_le _) hs0 hq0 V (lv_sub hl [4, 5, 3, 2, 1, 0] rfl)
  · skip
    have hs0 : 1 < 2 := by decide
    have hq0 : 1 = 1 ↔ ((tb_s (zz_n z) r9 w p9 c9 i) (p9 i) = p9 i ∧ ∀ a9, a9 < 0 → (∀ b9, b9 < w i → (tb_s (zz_n z) r9 w p9 c9 i) ((tw_op (zz_n z) r9 w p9 c9 (zz_n z - (i + 1))) a9 b9) = (tw_op (zz_n z) r9 w p9 c9 (zz_n z - (i + 1))) ((tb_s (zz_n z) r9 w p9 c9 i) a9) ((tb_s (zz_n z) r9 w p9 c9 i) b9)) ∧ (tw_op (zz_n z) r9 w p9 c9 (zz_n z - (i + 1))) a9 (p9 i) = (tw_op (zz_n z) r9 w p9 c9 (zz_n z - (i + 1))) (p9 i) (ex_it (tb_s (zz_n z) r9 w p9 c9 i) (r9 i) a9)) := ⟨fun _ => ⟨hsp, fun a9 h => absurd h (Nat.not_lt_zero _)⟩, fun _ => rfl⟩
    refine nw_iconst X 1 d_Mod_turns_24 (by decide) ?_
    refine nw_goto X (tgt := 29) d_Mod_turns_25 (by decide) ?_
    refine nw_istore X (lv' := [(4, _), (3, _), (2, _), (0, _), (1, _)]) d_Mod_turns_29 hl (by decide) rfl (fun ls hl => ?_)
    refine nw_iconst X 0 d_Mod_turns_31 (by decide) ?_
    refine nw_istore X (lv' := [(5, _), (4, _), (3, _), (2, _), (0, _), (1, _)]) d_Mod_turns_32 hl (by decide) rfl (fun ls hl => ?_)
    have LP34 : ∀ (d a g9 : Nat) (H : Heap) (locs : List Loc) (ls : Array Slot), w i - a < d → (a ≤ w i) → (g9 < 2) → (g9 = 1 ↔ ((tb_s (zz_n z) r9 w p9 c9 i) (p9 i) = p9 i ∧ ∀ a9, a9 < a → (∀ b9, b9 < w i → (tb_s (zz_n z) r9 w p9 c9 i) ((tw_op (zz_n z) r9 w p9 c9 (zz_n z - (i + 1))) a9 b9) = (tw_op (zz_n z) r9 w p9 c9 (zz_n z - (i + 1))) ((tb_s (zz_n z) r9 w p9 c9 i) a9) ((tb_s (zz_n z) r9 w p9 c9 i) b9)) ∧ (tw_op (zz_n z) r9 w p9 c9 (zz_n z - (i + 1))) a9 (p9 i) = (tw_op (zz_n z) r9 w p9 c9 (zz_n z - (i + 1))) (p9 i) (ex_it (tb_s (zz_n z) r9 w p9 c9 i) (r9 i) a9))) → zz_V z σ s.heap H locs →  lv_has ls 8 [(0, .ref (zz_A z (20, 0))), (1, .int (nI i)), (2, .int (nI (w i))), (3, .int (nI (p9 i))), (4, .int (nI g9)), (5, .int (nI a))] →  W p l e (hw_r 1) s m args below meth c H locs 0 0 Q (F0 m 34 ls []) := by
      intro d
      induction d with
      | zero => intro a g9 H locs ls hd; exact absurd hd (Nat.not_lt_zero _)
      | succ d IH34 =>
        intro a g9 H locs ls hd haN hg2 hgq V hl
        have hB := V.1.2.2
        refine nw_iload X d_Mod_turns_34 (lv_at hl 5 rfl) ?_
        refine nw_iload_n X d_Mod_turns_36 rfl (lv_at hl 2 rfl) ?_
        refine nw_icmp_ge X (tgt := 173) d_Mod_turns_37 (by decide) (by first | assumption | omega) (by first | assumption | omega) (fun ha => ?_) (fun ha => ?_)
        · skip
          refine nw_iload X d_Mod_turns_173 (lv_at hl 4 rfl) ?_
          exact hret _ _ _ _ _ _ d_Mod_turns_175 V hg2 ⟨rfl, hgq.trans ((show _ ↔ _ from ⟨fun q => ⟨fun a9 b9 h1 h2 => (q.2 a9 (by omega)).1 b9 h2, q.1, fun a9 h1 => (q.2 a9 (by omega)).2⟩, fun q => ⟨q.2.1, fun a9 h1 => ⟨fun b9 h2 => q.1 a9 b9 (by omega) h2, q.2.2 a9 (by omega)⟩⟩⟩).trans (tw_ask2 hw hi hk hp hc6).symm)⟩
        · skip
          refine nw_iconst X 0 d_Mod_turns_40 (by decide) ?_
          refine nw_istore X (lv' := [(6, _), (0, _), (1, _), (2, _), (3, _), (4, _), (5, _)]) d_Mod_turns_41 hl (by decide) rfl (fun ls hl => ?_)
          have LP43 : ∀ (d b h9 : Nat) (H : Heap) (locs : List Loc) (ls : Array Slot), w i - b < d → (b ≤ w i) → (h9 < 2) → (h9 = 1 ↔ (((tb_s (zz_n z) r9 w p9 c9 i) (p9 i) = p9 i ∧ ∀ a9, a9 < a → (∀ b9, b9 < w i → (tb_s (zz_n z) r9 w p9 c9 i) ((tw_op (zz_n z) r9 w p9 c9 (zz_n z - (i + 1))) a9 b9) = (tw_op (zz_n z) r9 w p9 c9 (zz_n z - (i + 1))) ((tb_s (zz_n z) r9 w p9 c9 i) a9) ((tb_s (zz_n z) r9 w p9 c9 i) b9)) ∧ (tw_op (zz_n z) r9 w p9 c9 (zz_n z - (i + 1))) a9 (p9 i) = (tw_op (zz_n z) r9 w p9 c9 (zz_n z - (i + 1))) (p9 i) (ex_it (tb_s (zz_n z) r9 w p9 c9 i) (r9 i) a9)) ∧ ∀ b9, b9 < b → (tb_s (zz_n z) r9 w p9 c9 i) ((tw_op (zz_n z) r9 w p9 c9 (zz_n z - (i + 1))) a b9) = (tw_op (zz_n z) r9 w p9 c9 (zz_n z - (i + 1))) ((tb_s (zz_n z) r9 w p9 c9 i) a) ((tb_s (zz_n z) r9 w p9 c9 i) b9))) → zz_V z σ s.heap H locs →  lv_has ls 8 [(0, .ref (zz_A z (20, 0))), (1, .int (nI i)), (2, .int (nI (w i))), (3, .int (nI (p9 i))), (4, .int (nI h9)), (5, .int (nI a)), (6, .int (nI b))] →  W p l e (hw_r 1) s m args below meth c H locs 0 0 Q (F0 m 43 ls []) := by
            intro d
            induction d with
            | zero => intro b h9 H locs ls hd; exact absurd hd (Nat.not_lt_zero _)
            | succ d IH43 =>
              intro b h9 H locs ls hd hbN hh2 hhq V hl
              have hB := V.1.2.2
              refine nw_iload X d_Mod_turns_43 (lv_at hl 6 rfl) ?_
              refine nw_iload_n X d_Mod_turns_45 rfl (lv_at hl 2 rfl) ?_
              refine nw_icmp_ge X (tgt := 105) d_Mod_turns_46 (by decide) (by first | assumption | omega) (by first | assumption | omega) (fun hb => ?_) (fun hb => ?_)
              · skip
                have hhw : h9 = 1 ↔ (((tb_s (zz_n z) r9 w p9 c9 i) (p9 i) = p9 i ∧ ∀ a9, a9 < a → (∀ b9, b9 < w i → (tb_s (zz_n z) r9 w p9 c9 i) ((tw_op (zz_n z) r9 w p9 c9 (zz_n z - (i + 1))) a9 b9) = (tw_op (zz_n z) r9 w p9 c9 (zz_n z - (i + 1))) ((tb_s (zz_n z) r9 w p9 c9 i) a9) ((tb_s (zz_n z) r9 w p9 c9 i) b9)) ∧ (tw_op (zz_n z) r9 w p9 c9 (zz_n z - (i + 1))) a9 (p9 i) = (tw_op (zz_n z) r9 w p9 c9 (zz_n z - (i + 1))) (p9 i) (ex_it (tb_s (zz_n z) r9 w p9 c9 i) (r9 i) a9)) ∧ ∀ b9, b9 < w i → (tb_s (zz_n z) r9 w p9 c9 i) ((tw_op (zz_n z) r9 w p9 c9 (zz_n z - (i + 1))) a b9) = (tw_op (zz_n z) r9 w p9 c9 (zz_n z - (i + 1))) ((tb_s (zz_n z) r9 w p9 c9 i) a) ((tb_s (zz_n z) r9 w p9 c9 i) b9)) := hhq.trans ⟨fun q => ⟨q.1, fun b9 h => q.2 b9 (by omega)⟩, fun q => ⟨q.1, fun b9 h => q.2 b9 (by omega)⟩⟩
                refine nw_iload X d_Mod_turns_105 (lv_at hl 5 rfl) ?_
                refine nw_istore X (lv' := [(6, _), (0, _), (1, _), (2, _), (3, _), (4, _), (5, _)]) d_Mod_turns_107 hl (by decide) rfl (fun ls hl => ?_)
                refine nw_iconst X 0 d_Mod_turns_109 (by decide) ?_
                refine nw_istore X (lv' := [(7, _), (6, _), (0, _), (1, _), (2, _), (3, _), (4, _), (5, _)]) d_Mod_turns_110 hl (by decide) rfl (fun ls hl => ?_)
                have LP112 : ∀ (d k x : Nat) (H : Heap) (locs : List Loc) (ls : Array Slot), r9 i - k < d → (k ≤ r9 i) → (x = ex_it (tb_s (zz_n z) r9 w p9 c9 i) k a) → (x < w i) → zz_V z σ s.heap H locs →  lv_has ls 8 [(0, .ref (zz_A z (20, 0))), (1, .int (nI i)), (2, .int (nI (w i))), (3, .int (nI (p9 i))), (4, .int (nI h9)), (5, .int (nI a)), (6, .int (nI x)), (7, .int (nI k))] →  W p l e (hw_r 1) s m args below meth c H locs 0 0 Q (F0 m 112 ls []) := by
                  intro d
                  induction d with
                  | zero => intro k x H locs ls hd; exact absurd hd (Nat.not_lt_zero _)
                  | succ d IH112 =>
                    intro k x H locs ls hd hkr hxe hxl V hl
                    have hB := V.1.2.2
                    refine nw_iload X d_Mod_turns_112 (lv_at hl 7 rfl) ?_
                    refine nw_aload_n X d_Mod_turns_114 rfl (lv_at hl 0 rfl) ?_
                    refine gf_Mod_7 X V (hz (20, 0) rfl) d_Mod_turns_115 ?_
                    refine nw_iload_n X d_Mod_turns_118 rfl (lv_at hl 1 rfl) ?_
                    refine hw_iald X V (hz (21, 0) rfl) 0 rfl rfl (by omega) (by decide) d_Mod_turns_119 ?_
                    rw [er]
                    refine nw_icmp_ge X (tgt := 138) d_Mod_turns_120 (by decide) (by first | assumption | omega) (by first | assumption | omega) (fun hkc => ?_) (fun hkc => ?_)
                    · skip
                      have hxr : x = ex_it (tb_s (zz_n z) r9 w p9 c9 i) (r9 i) a := by rw [hxe, show k = r9 i by omega]
                      refine nw_iload X d_Mod_turns_138 (lv_at hl 4 rfl) ?_
                      refine nw_if_eq X (tgt := 164) d_Mod_turns_140 (by decide) (by omega) (fun hh1 => ?_) (fun hh1 => ?_)
                      · skip
                        have hs3 : 0 < 2 := by decide
                        have hq3 : 0 = 1 ↔ ((tb_s (zz_n z) r9 w p9 c9 i) (p9 i) = p9 i ∧ ∀ a9, a9 < (a + 1) → (∀ b9, b9 < w i → (tb_s (zz_n z) r9 w p9 c9 i) ((tw_op (zz_n z) r9 w p9 c9 (zz_n z - (i + 1))) a9 b9) = (tw_op (zz_n z) r9 w p9 c9 (zz_n z - (i + 1))) ((tb_s (zz_n z) r9 w p9 c9 i) a9) ((tb_s (zz_n z) r9 w p9 c9 i) b9)) ∧ (tw_op (zz_n z) r9 w p9 c9 (zz_n z - (i + 1))) a9 (p9 i) = (tw_op (zz_n z) r9 w p9 c9 (zz_n z - (i + 1))) (p9 i) (ex_it (tb_s (zz_n z) r9 w p9 c9 i) (r9 i) a9)) := ⟨fun q => absurd q (by decide), fun q => by have := hhw.mpr ⟨⟨q.1, fun a9 h => q.2 a9 (by omega)⟩, (q.2 a (by omega)).1⟩; omega⟩
                        refine nw_iconst X 0 d_Mod_turns_164 (by decide) ?_
                        refine nw_istore X (lv' := [(4, _), (0, _), (1, _), (2, _), (3, _), (5, _), (6, _), (7, _)]) d_Mod_turns_165 hl (by decide) rfl (fun ls hl => ?_)
                        refine nw_iinc X (lv' := [(5, _), (4, _), (0, _), (1, _), (2, _), (3, _), (6, _), (7, _)]) (k := 5) 1 d_Mod_turns_167 hl rfl (by decide) (by decide) rfl (fun ls hl => ?_)
                        refine nw_goto X (tgt := 34) d_Mod_turns_170 (by decide) ?_
                        exact IH34 (a + 1) _ _ _ _ (by omega) ha hs3 hq3 V (lv_sub hl [2, 3, 4, 5, 1, 0] rfl)
                      · skip
                        refine nw_aload_n X d_Mod_turns_143 rfl (lv_at hl 0 rfl) ?_
                        refine nw_iload X d_Mod_turns_144 (lv_at hl 5 rfl) ?_
                        refine nw_iload_n X d_Mod_turns_146 rfl (lv_at hl 3 rfl) ?_
                        refine hw_calli X V (hz (20, 0) rfl) rfl rfl (cm_Mod_of l z σ hz _ _ (by have := ha; omega) (by have := hp; omega)) cs_Mod_59 (by decide) rfl hl.1 rfl (Nat.le_of_ble_eq_true rfl) (by decide) d_Mod_turns_147 (fun r σ' H locs V hr => ?_)
                        obtain ⟨hσ, rfl⟩ := hr
                        rw [hσ] at V
                        clear hσ
                        have hB := V.1.2.2
                        rw [hTi _ _ ha hp]
                        refine nw_aload_n X d_Mod_turns_150 rfl (lv_at hl 0 rfl) ?_
                        refine nw_iload_n X d_Mod_turns_151 rfl (lv_at hl 3 rfl) ?_
                        refine nw_iload X d_Mod_turns_152 (lv_at hl 6 rfl) ?_
                        refine hw_calli X V (hz (20, 0) rfl) rfl rfl (cm_Mod_of l z σ hz _ _ (by have := hp; omega) (by have := hxl; omega)) cs_Mod_59 (by decide) rfl hl.1 rfl (Nat.le_of_ble_eq_true rfl) (by decide) d_Mod_turns_154 (fun r σ' H locs V hr => ?_)
                        obtain ⟨hσ, rfl⟩ := hr
                        rw [hσ] at V
                        clear hσ
                        have hB := V.1.2.2
                        rw [hTi _ _ hp hxl]
                        refine nw_icmp_ne X (tgt := 164) d_Mod_turns_157 (by decide) (by have := g.lt ha hp; omega) (by have := g.lt hp hxl; omega) (fun hne => ?_) (fun hne => ?_)
                        · skip
                          have hs3 : 0 < 2 := by decide
                          have hq3 : 0 = 1 ↔ ((tb_s (zz_n z) r9 w p9 c9 i) (p9 i) = p9 i ∧ ∀ a9, a9 < (a + 1) → (∀ b9, b9 < w i → (tb_s (zz_n z) r9 w p9 c9 i) ((tw_op (zz_n z) r9 w p9 c9 (zz_n z - (i + 1))) a9 b9) = (tw_op (zz_n z) r9 w p9 c9 (zz_n z - (i + 1))) ((tb_s (zz_n z) r9 w p9 c9 i) a9) ((tb_s (zz_n z) r9 w p9 c9 i) b9)) ∧ (tw_op (zz_n z) r9 w p9 c9 (zz_n z - (i + 1))) a9 (p9 i) = (tw_op (zz_n z) r9 w p9 c9 (zz_n z - (i + 1))) (p9 i) (ex_it (tb_s (zz_n z) r9 w p9 c9 i) (r9 i) a9)) := ⟨fun q => absurd q (by decide), fun q => absurd (by rw [hxr]; exact (q.2 a (by omega)).2) hne⟩
                          refine nw_iconst X 0 d_Mod_turns_164 (by decide) ?_
                          refine nw_istore X (lv' := [(4, _), (0, _), (1, _), (2, _), (3, _), (5, _), (6, _), (7, _)]) d_Mod_turns_165 hl (by decide) rfl (fun ls hl => ?_)
                          refine nw_iinc X (lv' := [(5, _), (4, _), (0, _), (1, _), (2, _), (3, _), (6, _), (7, _)]) (k := 5) 1 d_Mod_turns_167 hl rfl (by decide) (by decide) rfl (fun ls hl => ?_)
                          refine nw_goto X (tgt := 34) d_Mod_turns_170 (by decide) ?_
                          exact IH34 (a + 1) _ _ _ _ (by omega) ha hs3 hq3 V (lv_sub hl [2, 3, 4, 5, 1, 0] rfl)
                        · skip
                          have hs3 : 1 < 2 := by decide
                          have hq3 : 1 = 1 ↔ ((tb_s (zz_n z) r9 w p9 c9 i) (p9 i) = p9 i ∧ ∀ a9, a9 < (a + 1) → (∀ b9, b9 < w i → (tb_s (zz_n z) r9 w p9 c9 i) ((tw_op (zz_n z) r9 w p9 c9 (zz_n z - (i + 1))) a9 b9) = (tw_op (zz_n z) r9 w p9 c9 (zz_n z - (i + 1))) ((tb_s (zz_n z) r9 w p9 c9 i) a9) ((tb_s (zz_n z) r9 w p9 c9 i) b9)) ∧ (tw_op (zz_n z) r9 w p9 c9 (zz_n z - (i + 1))) a9 (p9 i) = (tw_op (zz_n z) r9 w p9 c9 (zz_n z - (i + 1))) (p9 i) (ex_it (tb_s (zz_n z) r9 w p9 c9 i) (r9 i) a9)) := ⟨fun _ => ⟨(hhw.mp (by omega)).1.1, fun a9 h => by by_cases e : a9 = a; rw [e]; exact ⟨(hhw.mp (by omega)).2, by rw [← hxr]; exact hne⟩; exact (hhw.mp (by omega)).1.2 a9 (by omega)⟩, fun _ => rfl⟩
                          refine nw_iconst X 1 d_Mod_turns_160 (by decide) ?_
                          refine nw_goto X (tgt := 165) d_Mod_turns_161 (by decide) ?_
                          refine nw_istore X (lv' := [(4, _), (0, _), (1, _), (2, _), (3, _), (5, _), (6, _), (7, _)]) d_Mod_turns_165 hl (by decide) rfl (fun ls hl => ?_)
                          refine nw_iinc X (lv' := [(5, _), (4, _), (0, _), (1, _), (2, _), (3, _), (6, _), (7, _)]) (k := 5) 1 d_Mod_turns_167 hl rfl (by decide) (by decide) rfl (fun ls hl => ?_)
                          refine nw_goto X (tgt := 34) d_Mod_turns_170 (by decide) ?_
                          exact IH34 (a + 1) _ _ _ _ (by omega) ha hs3 hq3 V (lv_sub hl [2, 3, 4, 5, 1, 0] rfl)
                    · skip
                      refine nw_aload_n X d_Mod_turns_123 rfl (lv_at hl 0 rfl) ?_
                      refine gf_Mod_25 X V (hz (20, 0) rfl) d_Mod_turns_124 ?_
                      refine nw_iload X d_Mod_turns_127 (lv_at hl 6 rfl) ?_
                      refine hw_iald X V (hz (26, 0) rfl) 0 rfl rfl (by omega) (by decide) d_Mod_turns_129 ?_
                      rw [hon _ hxl]
                      refine nw_istore X (lv' := [(6, _), (0, _), (1, _), (2, _), (3, _), (4, _), (5, _), (7, _)]) d_Mod_turns_130 hl (by decide) rfl (fun ls hl => ?_)
                      refine nw_iinc X (lv' := [(7, _), (6, _), (0, _), (1, _), (2, _), (3, _), (4, _), (5, _)]) (k := 7) 1 d_Mod_turns_132 hl rfl (by decide) (by decide) rfl (fun ls hl => ?_)
                      refine nw_goto X (tgt := 112) d_Mod_turns_135 (by decide) ?_
                      exact IH112 (k + 1) _ _ _ _ (by omega) hkc (by rw [hxe]; rfl) (hsl x) V (lv_sub hl [2, 3, 4, 5, 6, 7, 1, 0] rfl)
                exact LP112 (r9 i + 1) 0 a _ _ _ (by omega) (Nat.zero_le _) rfl ha V (lv_sub hl [2, 3, 4, 5, 6, 7, 1, 0] rfl)
              · skip
                refine nw_iload X d_Mod_turns_49 (lv_at hl 4 rfl) ?_
                refine nw_if_eq X (tgt := 105) d_Mod_turns_51 (by decide) (by omega) (fun hh0 => ?_) (fun hh0 => ?_)
                · skip
                  have hhw : h9 = 1 ↔ (((tb_s (zz_n z) r9 w p9 c9 i) (p9 i) = p9 i ∧ ∀ a9, a9 < a → (∀ b9, b9 < w i → (tb_s (zz_n z) r9 w p9 c9 i) ((tw_op (zz_n z) r9 w p9 c9 (zz_n z - (i + 1))) a9 b9) = (tw_op (zz_n z) r9 w p9 c9 (zz_n z - (i + 1))) ((tb_s (zz_n z) r9 w p9 c9 i) a9) ((tb_s (zz_n z) r9 w p9 c9 i) b9)) ∧ (tw_op (zz_n z) r9 w p9 c9 (zz_n z - (i + 1))) a9 (p9 i) = (tw_op (zz_n z) r9 w p9 c9 (zz_n z - (i + 1))) (p9 i) (ex_it (tb_s (zz_n z) r9 w p9 c9 i) (r9 i) a9)) ∧ ∀ b9, b9 < w i → (tb_s (zz_n z) r9 w p9 c9 i) ((tw_op (zz_n z) r9 w p9 c9 (zz_n z - (i + 1))) a b9) = (tw_op (zz_n z) r9 w p9 c9 (zz_n z - (i + 1))) ((tb_s (zz_n z) r9 w p9 c9 i) a) ((tb_s (zz_n z) r9 w p9 c9 i) b9)) := ⟨fun q => by omega, fun q => by have := hhq.mpr ⟨q.1, fun b9 h => q.2 b9 (by omega)⟩; omega⟩
                  refine nw_iload X d_Mod_turns_105 (lv_at hl 5 rfl) ?_
                  refine nw_istore X (lv' := [(6, _), (0, _), (1, _), (2, _), (3, _), (4, _), (5, _)]) d_Mod_turns_107 hl (by decide) rfl (fun ls hl => ?_)
                  refine nw_iconst X 0 d_Mod_turns_109 (by decide) ?_
                  refine nw_istore X (lv' := [(7, _), (6, _), (0, _), (1, _), (2, _), (3, _), (4, _), (5, _)]) d_Mod_turns_110 hl (by decide) rfl (fun ls hl => ?_)
                  have LP112 : ∀ (d k x : Nat) (H : Heap) (locs : List Loc) (ls : Array Slot), r9 i - k < d → (k ≤ r9 i) → (x = ex_it (tb_s (zz_n z) r9 w p9 c9 i) k a) → (x < w i) → zz_V z σ s.heap H locs →  lv_has ls 8 [(0, .ref (zz_A z (20, 0))), (1, .int (nI i)), (2, .int (nI (w i))), (3, .int (nI (p9 i))), (4, .int (nI h9)), (5, .int (nI a)), (6, .int (nI x)), (7, .int (nI k))] →  W p l e (hw_r 1) s m args below meth c H locs 0 0 Q (F0 m 112 ls []) := by
                    intro d
                    induction d with
                    | zero => intro k x H locs ls hd; exact absurd hd (Nat.not_lt_zero _)
                    | succ d IH112 =>
                      intro k x H locs ls hd hkr hxe hxl V hl
                      have hB := V.1.2.2
                      refine nw_iload X d_Mod_turns_112 (lv_at hl 7 rfl) ?_
                      refine nw_aload_n X d_Mod_turns_114 rfl (lv_at hl 0 rfl) ?_
                      refine gf_Mod_7 X V (hz (20, 0) rfl) d_Mod_turns_115 ?_
                      refine nw_iload_n X d_Mod_turns_118 rfl (lv_at hl 1 rfl) ?_
                      refine hw_iald X V (hz (21, 0) rfl) 0 rfl rfl (by omega) (by decide) d_Mod_turns_119 ?_
                      rw [er]
                      refine nw_icmp_ge X (tgt := 138) d_Mod_turns_120 (by decide) (by first | assumption | omega) (by first | assumption | omega) (fun hkc => ?_) (fun hkc => ?_)
                      · skip
                        have hxr : x = ex_it (tb_s (zz_n z) r9 w p9 c9 i) (r9 i) a := by rw [hxe, show k = r9 i by omega]
                        refine nw_iload X d_Mod_turns_138 (lv_at hl 4 rfl) ?_
                        refine nw_if_eq X (tgt := 164) d_Mod_turns_140 (by decide) (by omega) (fun hh1 => ?_) (fun hh1 => ?_)
                        · skip
                          have hs3 : 0 < 2 := by decide
                          have hq3 : 0 = 1 ↔ ((tb_s (zz_n z) r9 w p9 c9 i) (p9 i) = p9 i ∧ ∀ a9, a9 < (a + 1) → (∀ b9, b9 < w i → (tb_s (zz_n z) r9 w p9 c9 i) ((tw_op (zz_n z) r9 w p9 c9 (zz_n z - (i + 1))) a9 b9) = (tw_op (zz_n z) r9 w p9 c9 (zz_n z - (i + 1))) ((tb_s (zz_n z) r9 w p9 c9 i) a9) ((tb_s (zz_n z) r9 w p9 c9 i) b9)) ∧ (tw_op (zz_n z) r9 w p9 c9 (zz_n z - (i + 1))) a9 (p9 i) = (tw_op (zz_n z) r9 w p9 c9 (zz_n z - (i + 1))) (p9 i) (ex_it (tb_s (zz_n z) r9 w p9 c9 i) (r9 i) a9)) := ⟨fun q => absurd q (by decide), fun q => by have := hhw.mpr ⟨⟨q.1, fun a9 h => q.2 a9 (by omega)⟩, (q.2 a (by omega)).1⟩; omega⟩
                          refine nw_iconst X 0 d_Mod_turns_164 (by decide) ?_
                          refine nw_istore X (lv' := [(4, _), (0, _), (1, _), (2, _), (3, _), (5, _), (6, _), (7, _)]) d_Mod_turns_165 hl (by decide) rfl (fun ls hl => ?_)
                          refine nw_iinc X (lv' := [(5, _), (4, _), (0, _), (1, _), (2, _), (3, _), (6, _), (7, _)]) (k := 5) 1 d_Mod_turns_167 hl rfl (by decide) (by decide) rfl (fun ls hl => ?_)
                          refine nw_goto X (tgt := 34) d_Mod_turns_170 (by decide) ?_
                          exact IH34 (a + 1) _ _ _ _ (by omega) ha hs3 hq3 V (lv_sub hl [2, 3, 4, 5, 1, 0] rfl)
                        · skip
                          refine nw_aload_n X d_Mod_turns_143 rfl (lv_at hl 0 rfl) ?_
                          refine nw_iload X d_Mod_turns_144 (lv_at hl 5 rfl) ?_
                          refine nw_iload_n X d_Mod_turns_146 rfl (lv_at hl 3 rfl) ?_
                          refine hw_calli X V (hz (20, 0) rfl) rfl rfl (cm_Mod_of l z σ hz _ _ (by have := ha; omega) (by have := hp; omega)) cs_Mod_59 (by decide) rfl hl.1 rfl (Nat.le_of_ble_eq_true rfl) (by decide) d_Mod_turns_147 (fun r σ' H locs V hr => ?_)
                          obtain ⟨hσ, rfl⟩ := hr
                          rw [hσ] at V
                          clear hσ
                          have hB := V.1.2.2
                          rw [hTi _ _ ha hp]
                          refine nw_aload_n X d_Mod_turns_150 rfl (lv_at hl 0 rfl) ?_
                          refine nw_iload_n X d_Mod_turns_151 rfl (lv_at hl 3 rfl) ?_
                          refine nw_iload X d_Mod_turns_152 (lv_at hl 6 rfl) ?_
                          refine hw_calli X V (hz (20, 0) rfl) rfl rfl (cm_Mod_of l z σ hz _ _ (by have := hp; omega) (by have := hxl; omega)) cs_Mod_59 (by decide) rfl hl.1 rfl (Nat.le_of_ble_eq_true rfl) (by decide) d_Mod_turns_154 (fun r σ' H locs V hr => ?_)
                          obtain ⟨hσ, rfl⟩ := hr
                          rw [hσ] at V
                          clear hσ
                          have hB := V.1.2.2
                          rw [hTi _ _ hp hxl]
                          refine nw_icmp_ne X (tgt := 164) d_Mod_turns_157 (by decide) (by have := g.lt ha hp; omega) (by have := g.lt hp hxl; omega) (fun hne => ?_) (fun hne => ?_)
                          · skip
                            have hs3 : 0 < 2 := by decide
                            have hq3 : 0 = 1 ↔ ((tb_s (zz_n z) r9 w p9 c9 i) (p9 i) = p9 i ∧ ∀ a9, a9 < (a + 1) → (∀ b9, b9 < w i → (tb_s (zz_n z) r9 w p9 c9 i) ((tw_op (zz_n z) r9 w p9 c9 (zz_n z - (i + 1))) a9 b9) = (tw_op (zz_n z) r9 w p9 c9 (zz_n z - (i + 1))) ((tb_s (zz_n z) r9 w p9 c9 i) a9) ((tb_s (zz_n z) r9 w p9 c9 i) b9)) ∧ (tw_op (zz_n z) r9 w p9 c9 (zz_n z - (i + 1))) a9 (p9 i) = (tw_op (zz_n z) r9 w p9 c9 (zz_n z - (i + 1))) (p9 i) (ex_it (tb_s (zz_n z) r9 w p9 c9 i) (r9 i) a9)) := ⟨fun q => absurd q (by decide), fun q => absurd (by rw [hxr]; exact (q.2 a (by omega)).2) hne⟩
                            refine nw_iconst X 0 d_Mod_turns_164 (by decide) ?_
                            refine nw_istore X (lv' := [(4, _), (0, _), (1, _), (2, _), (3, _), (5, _), (6, _), (7, _)]) d_Mod_turns_165 hl (by decide) rfl (fun ls hl => ?_)
                            refine nw_iinc X (lv' := [(5, _), (4, _), (0, _), (1, _), (2, _), (3, _), (6, _), (7, _)]) (k := 5) 1 d_Mod_turns_167 hl rfl (by decide) (by decide) rfl (fun ls hl => ?_)
                            refine nw_goto X (tgt := 34) d_Mod_turns_170 (by decide) ?_
                            exact IH34 (a + 1) _ _ _ _ (by omega) ha hs3 hq3 V (lv_sub hl [2, 3, 4, 5, 1, 0] rfl)
                          · skip
                            have hs3 : 1 < 2 := by decide
                            have hq3 : 1 = 1 ↔ ((tb_s (zz_n z) r9 w p9 c9 i) (p9 i) = p9 i ∧ ∀ a9, a9 < (a + 1) → (∀ b9, b9 < w i → (tb_s (zz_n z) r9 w p9 c9 i) ((tw_op (zz_n z) r9 w p9 c9 (zz_n z - (i + 1))) a9 b9) = (tw_op (zz_n z) r9 w p9 c9 (zz_n z - (i + 1))) ((tb_s (zz_n z) r9 w p9 c9 i) a9) ((tb_s (zz_n z) r9 w p9 c9 i) b9)) ∧ (tw_op (zz_n z) r9 w p9 c9 (zz_n z - (i + 1))) a9 (p9 i) = (tw_op (zz_n z) r9 w p9 c9 (zz_n z - (i + 1))) (p9 i) (ex_it (tb_s (zz_n z) r9 w p9 c9 i) (r9 i) a9)) := ⟨fun _ => ⟨(hhw.mp (by omega)).1.1, fun a9 h => by by_cases e : a9 = a; rw [e]; exact ⟨(hhw.mp (by omega)).2, by rw [← hxr]; exact hne⟩; exact (hhw.mp (by omega)).1.2 a9 (by omega)⟩, fun _ => rfl⟩
                            refine nw_iconst X 1 d_Mod_turns_160 (by decide) ?_
                            refine nw_goto X (tgt := 165) d_Mod_turns_161 (by decide) ?_
                            refine nw_istore X (lv' := [(4, _), (0, _), (1, _), (2, _), (3, _), (5, _), (6, _), (7, _)]) d_Mod_turns_165 hl (by decide) rfl (fun ls hl => ?_)
                            refine nw_iinc X (lv' := [(5, _), (4, _), (0, _), (1, _), (2, _), (3, _), (6, _), (7, _)]) (k := 5) 1 d_Mod_turns_167 hl rfl (by decide) (by decide) rfl (fun ls hl => ?_)
                            refine nw_goto X (tgt := 34) d_Mod_turns_170 (by decide) ?_
                            exact IH34 (a + 1) _ _ _ _ (by omega) ha hs3 hq3 V (lv_sub hl [2, 3, 4, 5, 1, 0] rfl)
                      · skip
                        refine nw_aload_n X d_Mod_turns_123 rfl (lv_at hl 0 rfl) ?_
                        refine gf_Mod_25 X V (hz (20, 0) rfl) d_Mod_turns_124 ?_
                        refine nw_iload X d_Mod_turns_127 (lv_at hl 6 rfl) ?_
                        refine hw_iald X V (hz (26, 0) rfl) 0 rfl rfl (by omega) (by decide) d_Mod_turns_129 ?_
                        rw [hon _ hxl]
                        refine nw_istore X (lv' := [(6, _), (0, _), (1, _), (2, _), (3, _), (4, _), (5, _), (7, _)]) d_Mod_turns_130 hl (by decide) rfl (fun ls hl => ?_)
                        refine nw_iinc X (lv' := [(7, _), (6, _), (0, _), (1, _), (2, _), (3, _), (4, _), (5, _)]) (k := 7) 1 d_Mod_turns_132 hl rfl (by decide) (by decide) rfl (fun ls hl => ?_)
                        refine nw_goto X (tgt := 112) d_Mod_turns_135 (by decide) ?_
                        exact IH112 (k + 1) _ _ _ _ (by omega) hkc (by rw [hxe]; rfl) (hsl x) V (lv_sub hl [2, 3, 4, 5, 6, 7, 1, 0] rfl)
                  exact LP112 (r9 i + 1) 0 a _ _ _ (by omega) (Nat.zero_le _) rfl ha V (lv_sub hl [2, 3, 4, 5, 6, 7, 1, 0] rfl)
                · skip
                  have hol := g.lt ha hb
                  refine nw_aload_n X d_Mod_turns_54 rfl (lv_at hl 0 rfl) ?_
                  refine nw_iload X d_Mod_turns_55 (lv_at hl 5 rfl) ?_
                  refine nw_iload X d_Mod_turns_57 (lv_at hl 6 rfl) ?_
                  refine hw_calli X V (hz (20, 0) rfl) rfl rfl (cm_Mod_of l z σ hz _ _ (by have := ha; omega) (by have := hb; omega)) cs_Mod_59 (by decide) rfl hl.1 rfl (Nat.le_of_ble_eq_true rfl) (by decide) d_Mod_turns_59 (fun r σ' H locs V hr => ?_)
                  obtain ⟨hσ, rfl⟩ := hr
                  rw [hσ] at V
                  clear hσ
                  have hB := V.1.2.2
                  rw [hTi _ _ ha hb]
                  refine nw_istore X (lv' := [(7, _), (0, _), (1, _), (2, _), (3, _), (4, _), (5, _), (6, _)]) d_Mod_turns_62 hl (by decide) rfl (fun ls hl => ?_)
                  refine nw_aload_n X d_Mod_turns_64 rfl (lv_at hl 1 rfl) ?_
                  refine gf_Mod_25 X V (hz (20, 0) rfl) d_Mod_turns_65 ?_
                  refine nw_iload X d_Mod_turns_68 (lv_at hl 0 rfl) ?_
                  refine hw_iald X V (hz (26, 0) rfl) 0 rfl rfl (by omega) (by decide) d_Mod_turns_70 ?_
                  rw [hon _ hol]
                  refine nw_aload_n X d_Mod_turns_71 rfl (lv_at hl 1 rfl) ?_
                  refine nw_aload_n X d_Mod_turns_72 rfl (lv_at hl 1 rfl) ?_
                  refine gf_Mod_25 X V (hz (20, 0) rfl) d_Mod_turns_73 ?_
                  refine nw_iload X d_Mod_turns_76 (lv_at hl 6 rfl) ?_
                  refine hw_iald X V (hz (26, 0) rfl) 0 rfl rfl (by omega) (by decide) d_Mod_turns_78 ?_
                  rw [hon _ ha]
                  refine nw_aload_n X d_Mod_turns_79 rfl (lv_at hl 1 rfl) ?_
                  refine gf_Mod_25 X V (hz (20, 0) rfl) d_Mod_turns_80 ?_
                  refine nw_iload X d_Mod_turns_83 (lv_at hl 7 rfl) ?_
                  refine hw_iald X V (hz (26, 0) rfl) 0 rfl rfl (by omega) (by decide) d_Mod_turns_85 ?_
                  rw [hon _ hb]
                  refine hw_calli X V (hz (20, 0) rfl) rfl rfl (cm_Mod_of l z σ hz _ _ (by have := (hsl a); omega) (by have := (hsl b); omega)) cs_Mod_59 (by decide) rfl hl.1 rfl (Nat.le_of_ble_eq_true rfl) (by decide) d_Mod_turns_86 (fun r σ' H locs V hr => ?_)
                  obtain ⟨hσ, rfl⟩ := hr
                  rw [hσ] at V
                  clear hσ
                  have hB := V.1.2.2
                  rw [hTi _ _ (hsl a) (hsl b)]
                  refine nw_icmp_ne X (tgt := 96) d_Mod_turns_89 (by decide) (by have := hsl ((tw_op (zz_n z) r9 w p9 c9 (zz_n z - (i + 1))) a b); omega) (by have := g.lt (hsl a) (hsl b); omega) (fun hne => ?_) (fun hne => ?_)
                  · skip
                    have hs1 : 0 < 2 := by decide
                    have hq1 : 0 = 1 ↔ (((tb_s (zz_n z) r9 w p9 c9 i) (p9 i) = p9 i ∧ ∀ a9, a9 < a → (∀ b9, b9 < w i → (tb_s (zz_n z) r9 w p9 c9 i) ((tw_op (zz_n z) r9 w p9 c9 (zz_n z - (i + 1))) a9 b9) = (tw_op (zz_n z) r9 w p9 c9 (zz_n z - (i + 1))) ((tb_s (zz_n z) r9 w p9 c9 i) a9) ((tb_s (zz_n z) r9 w p9 c9 i) b9)) ∧ (tw_op (zz_n z) r9 w p9 c9 (zz_n z - (i + 1))) a9 (p9 i) = (tw_op (zz_n z) r9 w p9 c9 (zz_n z - (i + 1))) (p9 i) (ex_it (tb_s (zz_n z) r9 w p9 c9 i) (r9 i) a9)) ∧ ∀ b9, b9 < b + 1 → (tb_s (zz_n z) r9 w p9 c9 i) ((tw_op (zz_n z) r9 w p9 c9 (zz_n z - (i + 1))) a b9) = (tw_op (zz_n z) r9 w p9 c9 (zz_n z - (i + 1))) ((tb_s (zz_n z) r9 w p9 c9 i) a) ((tb_s (zz_n z) r9 w p9 c9 i) b9)) := ⟨fun q => absurd q (by decide), fun q => absurd (q.2 b (by omega)) hne⟩
                    refine nw_iconst X 0 d_Mod_turns_96 (by decide) ?_
                    refine nw_istore X (lv' := [(4, _), (7, _), (0, _), (1, _), (2, _), (3, _), (5, _), (6, _)]) d_Mod_turns_97 hl (by decide) rfl (fun ls hl => ?_)
                    refine nw_iinc X (lv' := [(6, _), (4, _), (7, _), (0, _), (1, _), (2, _), (3, _), (5, _)]) (k := 7) 1 d_Mod_turns_99 hl rfl (by decide) (by decide) rfl (fun ls hl => ?_)
                    refine nw_goto X (tgt := 43) d_Mod_turns_102 (by decide) ?_
                    exact IH43 (b + 1) _ _ _ _ (by omega) hb hs1 hq1 V (lv_sub hl [3, 4, 5, 6, 1, 7, 0] rfl)
                  · skip
                    have hs1 : 1 < 2 := by decide
                    have hq1 : 1 = 1 ↔ (((tb_s (zz_n z) r9 w p9 c9 i) (p9 i) = p9 i ∧ ∀ a9, a9 < a → (∀ b9, b9 < w i → (tb_s (zz_n z) r9 w p9 c9 i) ((tw_op (zz_n z) r9 w p9 c9 (zz_n z - (i + 1))) a9 b9) = (tw_op (zz_n z) r9 w p9 c9 (zz_n z - (i + 1))) ((tb_s (zz_n z) r9 w p9 c9 i) a9) ((tb_s (zz_n z) r9 w p9 c9 i) b9)) ∧ (tw_op (zz_n z) r9 w p9 c9 (zz_n z - (i + 1))) a9 (p9 i) = (tw_op (zz_n z) r9 w p9 c9 (zz_n z - (i + 1))) (p9 i) (ex_it (tb_s (zz_n z) r9 w p9 c9 i) (r9 i) a9)) ∧ ∀ b9, b9 < b + 1 → (tb_s (zz_n z) r9 w p9 c9 i) ((tw_op (zz_n z) r9 w p9 c9 (zz_n z - (i + 1))) a b9) = (tw_op (zz_n z) r9 w p9 c9 (zz_n z - (i + 1))) ((tb_s (zz_n z) r9 w p9 c9 i) a) ((tb_s (zz_n z) r9 w p9 c9 i) b9)) := ⟨fun _ => ⟨(hhq.mp (by omega)).1, fun b9 h => by by_cases e : b9 = b; rw [e]; exact hne; exact (hhq.mp (by omega)).2 b9 (by omega)⟩, fun _ => rfl⟩
                    refine nw_iconst X 1 d_Mod_turns_92 (by decide) ?_
                    refine nw_goto X (tgt := 97) d_Mod_turns_93 (by decide) ?_
                    refine nw_istore X (lv' := [(4, _), (7, _), (0, _), (1, _), (2, _), (3, _), (5, _), (6, _)]) d_Mod_turns_97 hl (by decide) rfl (fun ls hl => ?_)
                    refine nw_iinc X (lv' := [(6, _), (4, _), (7, _), (0, _), (1, _), (2, _), (3, _), (5, _)]) (k := 7) 1 d_Mod_turns_99 hl rfl (by decide) (by decide) rfl (fun ls hl => ?_)
                    refine nw_goto X (tgt := 43) d_Mod_turns_102 (by decide) ?_
                    exact IH43 (b + 1) _ _ _ _ (by omega) hb hs1 hq1 V (lv_sub hl [3, 4, 5, 6, 1, 7, 0] rfl)
          exact LP43 (w i + 1) 0 g9 _ _ _ (by omega) (Nat.zero_le _) hg2 (hgq.trans ⟨fun q => ⟨q, fun b9 h => absurd h (Nat.not_lt_zero _)⟩, fun q => q.1⟩) V (lv_sub hl [1, 2, 3, 4, 5, 6, 0] rfl)
    exact LP34 (w i + 1) 0 _ _ _ _ (by omega) (Nat.zero_le _) hs0 hq0 V (lv_sub hl [4, 5, 3, 2, 1, 0] rfl)
set_option maxHeartbeats 4000000 in
set_option maxRecDepth 20000 in
theorem cm_Mod_enter (l : Launch) (z : zz_Z) (σ : hw_M) (hz : ∀ k, zz_k (zz_n z) k → zz_O z k) (hD : md_ok z σ) (r9 w p9 : Nat → Nat) (c9 : Nat → Nat → Nat) (hR : mr_ok z σ r9 w p9 c9) (i : Nat) (hi : i < zz_n z) (hk : tw_ok (zz_n z) r9 w p9 c9 (zz_n z - (i + 1))) (hT : tl_ok z σ r9 w p9 c9 (zz_n z - (i + 1))) (x y a : Nat) (hx : x < r9 i) (hy : y < r9 i) (ha : a < w i) (hmn : ∀ a9, a9 < w i → σ (27, 0) a9 = ex_it (tb_s (zz_n z) r9 w p9 c9 i) y a9) : Met l y_Mod_enter (hw_c y_Mod_enter b_Mod_enter 10 none) (hw_r 1) (va_Pc [.ref (zz_A z (20, 0)), .int (nI i), .int (nI x), .int (nI y), .int (nI a)] (zz_B z σ)) (va_Qv (fun σ' => (∀ u : hw_P, u ≠ (25, 0) → σ' u = σ u) ∧ (∀ k, ¬ (∃ b, b < w i ∧ k = 128 * (x * w i + a) + (y * w i + b)) → σ' (25, 0) k = σ (25, 0) k) ∧ (∀ b, b < w i → σ' (25, 0) (128 * (x * w i + a) + (y * w i + b)) = ex_op (w i) (r9 i) (p9 i) (tw_op (zz_n z) r9 w p9 c9 (zz_n z - (i + 1))) (tb_s (zz_n z) r9 w p9 c9 i) (x * w i + a) (y * w i + b)) ∧ tl_ok z σ' r9 w p9 c9 (zz_n z - (i + 1))) (zz_B z) (zz_F z)) 0 0 (zz_F z) := by
  refine hw_metv (post := (fun σ' => (∀ u : hw_P, u ≠ (25, 0) → σ' u = σ u) ∧ (∀ k, ¬ (∃ b, b < w i ∧ k = 128 * (x * w i + a) + (y * w i + b)) → σ' (25, 0) k = σ (25, 0) k) ∧ (∀ b, b < w i → σ' (25, 0) (128 * (x * w i + a) + (y * w i + b)) = ex_op (w i) (r9 i) (p9 i) (tw_op (zz_n z) r9 w p9 c9 (zz_n z - (i + 1))) (tb_s (zz_n z) r9 w p9 c9 i) (x * w i + a) (y * w i + b)) ∧ tl_ok z σ' r9 w p9 c9 (zz_n z - (i + 1)))) (by decide) (Nat.le_of_ble_eq_true rfl) ?_
  intro p e s m args below meth c ls Q X hret V hl
  have hl : lv_has ls 10 [(0, .ref (zz_A z (20, 0))), (1, .int (nI i)), (2, .int (nI x)), (3, .int (nI y)), (4, .int (nI a))] := hl
  have hB := V.1.2.2
  obtain ⟨hn7, hN, hn, hNe, h29, h30, h31⟩ := id hD
  obtain ⟨hw, hsz, hri, hcj⟩ := id hR
  have hq := mr_lv hR hN hi
  have g := tw_gpi hw hi hk
  have hc6 : ∀ j, i < j → j < zz_n z → c9 i j < w i := fun j h1 h2 => (hcj i j h1 h2).2
  have hTi := tl_i hw hi hT
  obtain ⟨er, ew, ep, hp⟩ := hri i hi
  have hml : ex_it (tb_s (zz_n z) r9 w p9 c9 i) y a < w i := tb_it_l hw hi hk hc6 ha y
  refine nw_aload_n X d_Mod_enter_0 rfl (lv_at hl 0 rfl) ?_
  refine gf_Mod_13 X V (hz (20, 0) rfl) d_Mod_enter_1 ?_
  refine nw_iload_n X d_Mod_enter_4 rfl (lv_at hl 1 rfl) ?_
  refine hw_iald X V (hz (22, 0) rfl) 0 rfl rfl (by omega) (by decide) d_Mod_enter_5 ?_
  rw [ew]
  refine nw_istore X (lv' := [(5, _), (0, _), (1, _), (2, _), (3, _), (4, _)]) d_Mod_enter_6 hl (by decide) rfl (fun ls hl => ?_)
  refine nw_iload_n X d_Mod_enter_8 rfl (lv_at hl 3 rfl) ?_
  refine nw_iload_n X d_Mod_enter_9 rfl (lv_at hl 4 rfl) ?_
  refine nw_iadd X d_Mod_enter_10 ?_
  refine nw_istore X (lv' := [(6, _), (5, _), (0, _), (1, _), (2, _), (3, _), (4, _)]) d_Mod_enter_11 hl (by decide) rfl (fun ls hl => ?_)
  refine nw_iload X d_Mod_enter_13 (lv_at hl 0 rfl) ?_
  refine nw_aload_n X d_Mod_enter_15 rfl (lv_at hl 2 rfl) ?_
  refine gf_Mod_7 X V (hz (20, 0) rfl) d_Mod_enter_16 ?_
  refine nw_iload_n X d_Mod_enter_19 rfl (lv_at hl 3 rfl) ?_
  refine hw_iald X V (hz (21, 0) rfl) 0 rfl rfl (by omega) (by decide) d_Mod_enter_20 ?_
  rw [er]
  refine nw_icmp_lt X (tgt := 44) d_Mod_enter_21 (by decide) (by omega) (by omega) (fun hxy => ?_) (fun hxy => ?_)
  · skip
    have hlf : ex_it (tb_s (zz_n z) r9 w p9 c9 i) y a < w i := hml
    have hle : ex_it (tb_s (zz_n z) r9 w p9 c9 i) y a = (if r9 i ≤ x + y then (tw_op (zz_n z) r9 w p9 c9 (zz_n z - (i + 1))) (p9 i) (ex_it (tb_s (zz_n z) r9 w p9 c9 i) y a) else ex_it (tb_s (zz_n z) r9 w p9 c9 i) y a) := (if_neg (by omega)).symm
    refine nw_aload_n X d_Mod_enter_44 rfl (lv_at hl 2 rfl) ?_
    refine gf_Mod_28 X V (hz (20, 0) rfl) d_Mod_enter_45 ?_
    refine nw_iload X d_Mod_enter_48 (lv_at hl 6 rfl) ?_
    refine hw_iald X V (hz (27, 0) rfl) 0 rfl rfl (by omega) (by decide) d_Mod_enter_50 ?_
    rw [hmn a ha]
    rw [hle] at hlf ⊢
    clear hle
    have hl0 : x = 0 → y = 0 → (if r9 i ≤ x + y then (tw_op (zz_n z) r9 w p9 c9 (zz_n z - (i + 1))) (p9 i) (ex_it (tb_s (zz_n z) r9 w p9 c9 i) y a) else ex_it (tb_s (zz_n z) r9 w p9 c9 i) y a) = a := fun h1 h2 => by rw [if_neg (by omega), h2]; rfl
    have hval : ∀ b, b < w i → (x + y) % r9 i * w i + (tw_op (zz_n z) r9 w p9 c9 (zz_n z - (i + 1))) (if r9 i ≤ x + y then (tw_op (zz_n z) r9 w p9 c9 (zz_n z - (i + 1))) (p9 i) (ex_it (tb_s (zz_n z) r9 w p9 c9 i) y a) else ex_it (tb_s (zz_n z) r9 w p9 c9 i) y a) b = ex_op (w i) (r9 i) (p9 i) (tw_op (zz_n z) r9 w p9 c9 (zz_n z - (i + 1))) (tb_s (zz_n z) r9 w p9 c9 i) (x * w i + a) (y * w i + b) := fun b hb => (tl_val ha hb).symm
    generalize (if r9 i ≤ x + y then (tw_op (zz_n z) r9 w p9 c9 (zz_n z - (i + 1))) (p9 i) (ex_it (tb_s (zz_n z) r9 w p9 c9 i) y a) else ex_it (tb_s (zz_n z) r9 w p9 c9 i) y a) = lf at hlf hl0 hval ⊢
    refine nw_istore X (lv' := [(7, _), (6, _), (5, _), (0, _), (1, _), (2, _), (3, _), (4, _)]) d_Mod_enter_51 hl (by decide) rfl (fun ls hl => ?_)
    refine nw_iload X d_Mod_enter_53 (lv_at hl 1 rfl) ?_
    refine nw_aload_n X d_Mod_enter_55 rfl (lv_at hl 3 rfl) ?_
    refine gf_Mod_7 X V (hz (20, 0) rfl) d_Mod_enter_56 ?_
    refine nw_iload_n X d_Mod_enter_59 rfl (lv_at hl 4 rfl) ?_
    refine hw_iald X V (hz (21, 0) rfl) 0 rfl rfl (by omega) (by decide) d_Mod_enter_60 ?_
    rw [er]
    refine nw_irem X (by omega) (by omega) (by omega) d_Mod_enter_61 ?_
    refine nw_istore X (lv' := [(8, _), (7, _), (6, _), (5, _), (0, _), (1, _), (2, _), (3, _), (4, _)]) d_Mod_enter_62 hl (by decide) rfl (fun ls hl => ?_)
    refine nw_iconst X 0 d_Mod_enter_64 (by decide) ?_
    refine nw_istore X (lv' := [(9, _), (8, _), (7, _), (6, _), (5, _), (0, _), (1, _), (2, _), (3, _), (4, _)]) d_Mod_enter_65 hl (by decide) rfl (fun ls hl => ?_)
    have LP67 : ∀ (d b : Nat) (σ1 : hw_M) (H : Heap) (locs : List Loc) (ls : Array Slot), w i - b < d → (b ≤ w i) → (∀ u : hw_P, u ≠ (25, 0) → σ1 u = σ u) → (∀ k, ¬ (∃ b, b < w i ∧ k = 128 * (x * w i + a) + (y * w i + b)) → σ1 (25, 0) k = σ (25, 0) k) → (∀ b9, b9 < b → σ1 (25, 0) (128 * (x * w i + a) + (y * w i + b9)) = (x + y) % r9 i * w i + (tw_op (zz_n z) r9 w p9 c9 (zz_n z - (i + 1))) lf b9) → (∀ u v, u < w i → v < w i → σ1 (25, 0) (128 * u + v) = (tw_op (zz_n z) r9 w p9 c9 (zz_n z - (i + 1))) u v) → zz_V z σ1 s.heap H locs →  lv_has ls 10 [(0, .ref (zz_A z (20, 0))), (2, .int (nI x)), (3, .int (nI y)), (4, .int (nI a)), (5, .int (nI (w i))), (7, .int (nI lf)), (8, .int (nI ((x + y) % r9 i))), (9, .int (nI b))] →  W p l e (hw_r 1) s m args below meth c H locs 0 0 Q (F0 m 67 ls []) := by
      intro d
      induction d with
      | zero => intro b σ1 H locs ls hd; exact absurd hd (Nat.not_lt_zero _)
      | succ d IH67 =>
        intro b σ1 H locs ls hd hbN hfr hout hin hti V hl
        have hB := V.1.2.2
        refine nw_iload X d_Mod_enter_67 (lv_at hl 7 rfl) ?_
        refine nw_iload X d_Mod_enter_69 (lv_at hl 4 rfl) ?_
        refine nw_icmp_ge X (tgt := 118) d_Mod_enter_71 (by decide) (by first | assumption | omega) (by first | assumption | omega) (fun hb => ?_) (fun hb => ?_)
        · skip
          exact hret _ _ _ _ _ d_Mod_enter_118 V ⟨hfr, hout, fun b9 h9 => by rw [hin b9 (by omega), hval b9 h9], fun u v hu hv => hti u v (by rw [← (tw_szi hw hi).2]; exact hu) (by rw [← (tw_szi hw hi).2]; exact hv)⟩
        · skip
          refine nw_aload_n X d_Mod_enter_74 rfl (lv_at hl 0 rfl) ?_
          refine gf_Mod_22 X V (hz (20, 0) rfl) d_Mod_enter_75 ?_
          refine nw_sipush X 128 d_Mod_enter_78 (by decide) ?_
          refine nw_iload_n X d_Mod_enter_81 rfl (lv_at hl 1 rfl) ?_
          refine nw_iload X d_Mod_enter_82 (lv_at hl 4 rfl) ?_
          refine nw_imul X d_Mod_enter_84 ?_
          refine nw_iload X d_Mod_enter_85 (lv_at hl 3 rfl) ?_
          refine nw_iadd X d_Mod_enter_87 ?_
          refine nw_imul X d_Mod_enter_88 ?_
          refine nw_iload_n X d_Mod_enter_89 rfl (lv_at hl 2 rfl) ?_
          refine nw_iload X d_Mod_enter_90 (lv_at hl 4 rfl) ?_
          refine nw_imul X d_Mod_enter_92 ?_
          refine nw_iadd X d_Mod_enter_93 ?_
          refine nw_iload X d_Mod_enter_94 (lv_at hl 7 rfl) ?_
          refine nw_iadd X d_Mod_enter_96 ?_
          refine nw_iload X d_Mod_enter_97 (lv_at hl 6 rfl) ?_
          refine nw_iload X d_Mod_enter_99 (lv_at hl 4 rfl) ?_
          refine nw_imul X d_Mod_enter_101 ?_
          refine nw_aload_n X d_Mod_enter_102 rfl (lv_at hl 0 rfl) ?_
          refine nw_iload X d_Mod_enter_103 (lv_at hl 5 rfl) ?_
          refine nw_iload X d_Mod_enter_105 (lv_at hl 7 rfl) ?_
          refine hw_calli X V (hz (20, 0) rfl) rfl rfl (cm_Mod_of l z σ1 hz _ _ (by omega) (by omega)) cs_Mod_59 (by decide) rfl hl.1 rfl (Nat.le_of_ble_eq_true rfl) (by decide) d_Mod_enter_107 (fun r σ' H locs V hr => ?_)
          obtain ⟨hσ, rfl⟩ := hr
          rw [hσ] at V
          clear hσ
          have hB := V.1.2.2
          rw [hti _ _ hlf hb]
          refine nw_iadd X d_Mod_enter_110 ?_
          refine hw_iast X V (hz (25, 0) rfl) 0 (fun _ => rfl) rfl (by have h1 := ex_lt hx ha; have h2 := ex_lt hy hb; omega) (by decide) (by have := g.lt hlf hb; have := Nat.mod_lt (x + y) (show 0 < r9 i by omega); have h9 : (x + y) % r9 i * w i ≤ r9 i * w i := Nat.mul_le_mul_right _ (by omega); omega) d_Mod_enter_111 (fun H locs V => ?_)
          refine nw_iinc X (lv' := [(9, _), (0, _), (2, _), (3, _), (4, _), (5, _), (7, _), (8, _)]) (k := 7) 1 d_Mod_enter_112 hl rfl (by decide) (by decide) rfl (fun ls hl => ?_)
          refine nw_goto X (tgt := 67) d_Mod_enter_115 (by decide) ?_
          exact IH67 (b + 1) _ _ _ _ (by omega) hb (fun u hu => (hw_up_k _ _ _ hu).trans (hfr u hu)) (fun k hk9 => by rw [hw_up_i _ _ _ (fun e => hk9 ⟨b, hb, by rw [e, Nat.add_assoc]⟩)]; exact hout k hk9) (fun b9 h9 => by rw [hw_up_v]; by_cases e : b9 = b; rw [if_pos (by rw [e, Nat.add_assoc]), e]; rw [if_neg (by omega)]; exact hin b9 (by omega)) (fun u v hu hv => by
            rw [hw_up_v]
            by_cases e : 128 * u + v = 128 * (x * w i + a) + y * w i + b
            · obtain ⟨e1, e2, e3, e4⟩ := en_z hq.1 hq.2.2.1 hy ha hb hu hv e
              rw [if_pos e, hl0 e1 e2, e1, e2, Nat.add_zero, Nat.zero_mod, Nat.zero_mul, Nat.zero_add, e3, e4]
            · rw [if_neg e]; exact hti u v hu hv) V (lv_sub hl [1, 2, 3, 4, 5, 6, 7, 0] rfl)
    exact LP67 (w i + 1) 0 _ _ _ _ (by omega) (Nat.zero_le _) (fun _ _ => rfl) (fun _ _ => rfl) (fun b9 h => absurd h (Nat.not_lt_zero _)) hTi V (lv_sub hl [5, 7, 8, 9, 4, 2, 1, 0] rfl)
  · skip
    have hlf : (tw_op (zz_n z) r9 w p9 c9 (zz_n z - (i + 1))) (p9 i) (ex_it (tb_s (zz_n z) r9 w p9 c9 i) y a) < w i := g.lt hp hml
    have hle : (tw_op (zz_n z) r9 w p9 c9 (zz_n z - (i + 1))) (p9 i) (ex_it (tb_s (zz_n z) r9 w p9 c9 i) y a) = (if r9 i ≤ x + y then (tw_op (zz_n z) r9 w p9 c9 (zz_n z - (i + 1))) (p9 i) (ex_it (tb_s (zz_n z) r9 w p9 c9 i) y a) else ex_it (tb_s (zz_n z) r9 w p9 c9 i) y a) := (if_pos hxy).symm
    refine nw_aload_n X d_Mod_enter_24 rfl (lv_at hl 2 rfl) ?_
    refine nw_aload_n X d_Mod_enter_25 rfl (lv_at hl 2 rfl) ?_
    refine gf_Mod_16 X V (hz (20, 0) rfl) d_Mod_enter_26 ?_
    refine nw_iload_n X d_Mod_enter_29 rfl (lv_at hl 3 rfl) ?_
    refine hw_iald X V (hz (23, 0) rfl) 0 rfl rfl (by omega) (by decide) d_Mod_enter_30 ?_
    rw [ep]
    refine nw_aload_n X d_Mod_enter_31 rfl (lv_at hl 2 rfl) ?_
    refine gf_Mod_28 X V (hz (20, 0) rfl) d_Mod_enter_32 ?_
    refine nw_iload X d_Mod_enter_35 (lv_at hl 6 rfl) ?_
    refine hw_iald X V (hz (27, 0) rfl) 0 rfl rfl (by omega) (by decide) d_Mod_enter_37 ?_
    rw [hmn a ha]
    refine hw_calli X V (hz (20, 0) rfl) rfl rfl (cm_Mod_of l z σ hz _ _ (by have := hp; omega) (by have := hml; omega)) cs_Mod_59 (by decide) rfl hl.1 rfl (Nat.le_of_ble_eq_true rfl) (by decide) d_Mod_enter_38 (fun r σ' H locs V hr => ?_)
    obtain ⟨hσ, rfl⟩ := hr
    rw [hσ] at V
    clear hσ
    have hB := V.1.2.2
    rw [hTi _ _ hp hml]
    refine nw_goto X (tgt := 51) d_Mod_enter_41 (by decide) ?_
    rw [hle] at hlf ⊢
    clear hle
    have hl0 : x = 0 → y = 0 → (if r9 i ≤ x + y then (tw_op (zz_n z) r9 w p9 c9 (zz_n z - (i + 1))) (p9 i) (ex_it (tb_s (zz_n z) r9 w p9 c9 i) y a) else ex_it (tb_s (zz_n z) r9 w p9 c9 i) y a) = a := fun h1 h2 => by rw [if_neg (by omega), h2]; rfl
    have hval : ∀ b, b < w i → (x + y) % r9 i * w i + (tw_op (zz_n z) r9 w p9 c9 (zz_n z - (i + 1))) (if r9 i ≤ x + y then (tw_op (zz_n z) r9 w p9 c9 (zz_n z - (i + 1))) (p9 i) (ex_it (tb_s (zz_n z) r9 w p9 c9 i) y a) else ex_it (tb_s (zz_n z) r9 w p9 c9 i) y a) b = ex_op (w i) (r9 i) (p9 i) (tw_op (zz_n z) r9 w p9 c9 (zz_n z - (i + 1))) (tb_s (zz_n z) r9 w p9 c9 i) (x * w i + a) (y * w i + b) := fun b hb => (tl_val ha hb).symm
    generalize (if r9 i ≤ x + y then (tw_op (zz_n z) r9 w p9 c9 (zz_n z - (i + 1))) (p9 i) (ex_it (tb_s (zz_n z) r9 w p9 c9 i) y a) else ex_it (tb_s (zz_n z) r9 w p9 c9 i) y a) = lf at hlf hl0 hval ⊢
    refine nw_istore X (lv' := [(7, _), (6, _), (5, _), (0, _), (1, _), (2, _), (3, _), (4, _)]) d_Mod_enter_51 hl (by decide) rfl (fun ls hl => ?_)
    refine nw_iload X d_Mod_enter_53 (lv_at hl 1 rfl) ?_
    refine nw_aload_n X d_Mod_enter_55 rfl (lv_at hl 3 rfl) ?_
    refine gf_Mod_7 X V (hz (20, 0) rfl) d_Mod_enter_56 ?_
    refine nw_iload_n X d_Mod_enter_59 rfl (lv_at hl 4 rfl) ?_
    refine hw_iald X V (hz (21, 0) rfl) 0 rfl rfl (by omega) (by decide) d_Mod_enter_60 ?_
    rw [er]
    refine nw_irem X (by omega) (by omega) (by omega) d_Mod_enter_61 ?_
    refine nw_istore X (lv' := [(8, _), (7, _), (6, _), (5, _), (0, _), (1, _), (2, _), (3, _), (4, _)]) d_Mod_enter_62 hl (by decide) rfl (fun ls hl => ?_)
    refine nw_iconst X 0 d_Mod_enter_64 (by decide) ?_
    refine nw_istore X (lv' := [(9, _), (8, _), (7, _), (6, _), (5, _), (0, _), (1, _), (2, _), (3, _), (4, _)]) d_Mod_enter_65 hl (by decide) rfl (fun ls hl => ?_)
    have LP67 : ∀ (d b : Nat) (σ1 : hw_M) (H : Heap) (locs : List Loc) (ls : Array Slot), w i - b < d → (b ≤ w i) → (∀ u : hw_P, u ≠ (25, 0) → σ1 u = σ u) → (∀ k, ¬ (∃ b, b < w i ∧ k = 128 * (x * w i + a) + (y * w i + b)) → σ1 (25, 0) k = σ (25, 0) k) → (∀ b9, b9 < b → σ1 (25, 0) (128 * (x * w i + a) + (y * w i + b9)) = (x + y) % r9 i * w i + (tw_op (zz_n z) r9 w p9 c9 (zz_n z - (i + 1))) lf b9) → (∀ u v, u < w i → v < w i → σ1 (25, 0) (128 * u + v) = (tw_op (zz_n z) r9 w p9 c9 (zz_n z - (i + 1))) u v) → zz_V z σ1 s.heap H locs →  lv_has ls 10 [(0, .ref (zz_A z (20, 0))), (2, .int (nI x)), (3, .int (nI y)), (4, .int (nI a)), (5, .int (nI (w i))), (7, .int (nI lf)), (8, .int (nI ((x + y) % r9 i))), (9, .int (nI b))] →  W p l e (hw_r 1) s m args below meth c H locs 0 0 Q (F0 m 67 ls []) := by
      intro d
      induction d with
      | zero => intro b σ1 H locs ls hd; exact absurd hd (Nat.not_lt_zero _)
      | succ d IH67 =>
        intro b σ1 H locs ls hd hbN hfr hout hin hti V hl
        have hB := V.1.2.2
        refine nw_iload X d_Mod_enter_67 (lv_at hl 7 rfl) ?_
        refine nw_iload X d_Mod_enter_69 (lv_at hl 4 rfl) ?_
        refine nw_icmp_ge X (tgt := 118) d_Mod_enter_71 (by decide) (by first | assumption | omega) (by first | assumption | omega) (fun hb => ?_) (fun hb => ?_)
        · skip
          exact hret _ _ _ _ _ d_Mod_enter_118 V ⟨hfr, hout, fun b9 h9 => by rw [hin b9 (by omega), hval b9 h9], fun u v hu hv => hti u v (by rw [← (tw_szi hw hi).2]; exact hu) (by rw [← (tw_szi hw hi).2]; exact hv)⟩
        · skip
          refine nw_aload_n X d_Mod_enter_74 rfl (lv_at hl 0 rfl) ?_
          refine gf_Mod_22 X V (hz (20, 0) rfl) d_Mod_enter_75 ?_
          refine nw_sipush X 128 d_Mod_enter_78 (by decide) ?_
          refine nw_iload_n X d_Mod_enter_81 rfl (lv_at hl 1 rfl) ?_
          refine nw_iload X d_Mod_enter_82 (lv_at hl 4 rfl) ?_
          refine nw_imul X d_Mod_enter_84 ?_
          refine nw_iload X d_Mod_enter_85 (lv_at hl 3 rfl) ?_
          refine nw_iadd X d_Mod_enter_87 ?_
          refine nw_imul X d_Mod_enter_88 ?_
          refine nw_iload_n X d_Mod_enter_89 rfl (lv_at hl 2 rfl) ?_
          refine nw_iload X d_Mod_enter_90 (lv_at hl 4 rfl) ?_
          refine nw_imul X d_Mod_enter_92 ?_
          refine nw_iadd X d_Mod_enter_93 ?_
          refine nw_iload X d_Mod_enter_94 (lv_at hl 7 rfl) ?_
          refine nw_iadd X d_Mod_enter_96 ?_
          refine nw_iload X d_Mod_enter_97 (lv_at hl 6 rfl) ?_
          refine nw_iload X d_Mod_enter_99 (lv_at hl 4 rfl) ?_
          refine nw_imul X d_Mod_enter_101 ?_
          refine nw_aload_n X d_Mod_enter_102 rfl (lv_at hl 0 rfl) ?_
          refine nw_iload X d_Mod_enter_103 (lv_at hl 5 rfl) ?_
          refine nw_iload X d_Mod_enter_105 (lv_at hl 7 rfl) ?_
          refine hw_calli X V (hz (20, 0) rfl) rfl rfl (cm_Mod_of l z σ1 hz _ _ (by omega) (by omega)) cs_Mod_59 (by decide) rfl hl.1 rfl (Nat.le_of_ble_eq_true rfl) (by decide) d_Mod_enter_107 (fun r σ' H locs V hr => ?_)
          obtain ⟨hσ, rfl⟩ := hr
          rw [hσ] at V
          clear hσ
          have hB := V.1.2.2
          rw [hti _ _ hlf hb]
          refine nw_iadd X d_Mod_enter_110 ?_
          refine hw_iast X V (hz (25, 0) rfl) 0 (fun _ => rfl) rfl (by have h1 := ex_lt hx ha; have h2 := ex_lt hy hb; omega) (by decide) (by have := g.lt hlf hb; have := Nat.mod_lt (x + y) (show 0 < r9 i by omega); have h9 : (x + y) % r9 i * w i ≤ r9 i * w i := Nat.mul_le_mul_right _ (by omega); omega) d_Mod_enter_111 (fun H locs V => ?_)
          refine nw_iinc X (lv' := [(9, _), (0, _), (2, _), (3, _), (4, _), (5, _), (7, _), (8, _)]) (k := 7) 1 d_Mod_enter_112 hl rfl (by decide) (by decide) rfl (fun ls hl => ?_)
          refine nw_goto X (tgt := 67) d_Mod_enter_115 (by decide) ?_
          exact IH67 (b + 1) _ _ _ _ (by omega) hb (fun u hu => (hw_up_k _ _ _ hu).trans (hfr u hu)) (fun k hk9 => by rw [hw_up_i _ _ _ (fun e => hk9 ⟨b, hb, by rw [e, Nat.add_assoc]⟩)]; exact hout k hk9) (fun b9 h9 => by rw [hw_up_v]; by_cases e : b9 = b; rw [if_pos (by rw [e, Nat.add_assoc]), e]; rw [if_neg (by omega)]; exact hin b9 (by omega)) (fun u v hu hv => by
            rw [hw_up_v]
            by_cases e : 128 * u + v = 128 * (x * w i + a) + y * w i + b
            · obtain ⟨e1, e2, e3, e4⟩ := en_z hq.1 hq.2.2.1 hy ha hb hu hv e
              rw [if_pos e, hl0 e1 e2, e1, e2, Nat.add_zero, Nat.zero_mod, Nat.zero_mul, Nat.zero_add, e3, e4]
            · rw [if_neg e]; exact hti u v hu hv) V (lv_sub hl [1, 2, 3, 4, 5, 6, 7, 0] rfl)
    exact LP67 (w i + 1) 0 _ _ _ _ (by omega) (Nat.zero_le _) (fun _ _ => rfl) (fun _ _ => rfl) (fun b9 h => absurd h (Nat.not_lt_zero _)) hTi V (lv_sub hl [5, 7, 8, 9, 4, 2, 1, 0] rfl)
