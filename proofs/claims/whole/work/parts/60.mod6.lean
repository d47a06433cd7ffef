/-! The reference: widening, building, fixing. By program (wip/whole/gen/mod6.py). -/
set_option maxHeartbeats 4000000 in
set_option maxRecDepth 20000 in
theorem cm_Mod_widen (l : Launch) (z : zz_Z) (σ : hw_M) (hz : ∀ k, zz_k (zz_n z) k → zz_O z k) (hD : md_ok z σ) (r9 w p9 : Nat → Nat) (c9 : Nat → Nat → Nat) (hR : mr_ok z σ r9 w p9 c9) (i : Nat) (hi : i < zz_n z) (hk : tw_ok (zz_n z) r9 w p9 c9 (zz_n z - (i + 1))) (hT : tl_ok z σ r9 w p9 c9 (zz_n z - (i + 1))) (hon : ∀ y, y < w i → σ (26, 0) y = (tb_s (zz_n z) r9 w p9 c9 i) y) : Met l y_Mod_widen (hw_c y_Mod_widen b_Mod_widen 6 none) (hw_r 2) (va_Pc [.ref (zz_A z (20, 0)), .int (nI i)] (zz_B z σ)) (va_Qv (fun σ' => mt_q σ σ' ∧ tl_ok z σ' r9 w p9 c9 (zz_n z - i)) (zz_B z) (zz_F z)) 0 0 (zz_F z) := by
  refine hw_metv (post := (fun σ' => mt_q σ σ' ∧ tl_ok z σ' r9 w p9 c9 (zz_n z - i))) (by decide) (Nat.le_of_ble_eq_true rfl) ?_
  intro p e s m args below meth c ls Q X hret V hl
  have hl : lv_has ls 6 [(0, .ref (zz_A z (20, 0))), (1, .int (nI i))] := hl
  have hB := V.1.2.2
  obtain ⟨hn7, hN, hn, hNe, h29, h30, h31⟩ := id hD
  obtain ⟨hw, hsz, hri, hcj⟩ := id hR
  have hq := mr_lv hR hN hi
  have g := tw_gpi hw hi hk
  have hc6 : ∀ j, i < j → j < zz_n z → c9 i j < w i := fun j h1 h2 => (hcj i j h1 h2).2
  have hTi := tl_i hw hi hT
  obtain ⟨er, ew, ep, hp⟩ := hri i hi
  refine nw_aload_n X d_Mod_widen_0 rfl (lv_at hl 0 rfl) ?_
  refine gf_Mod_13 X V (hz (20, 0) rfl) d_Mod_widen_1 ?_
  refine nw_iload_n X d_Mod_widen_4 rfl (lv_at hl 1 rfl) ?_
  refine hw_iald X V (hz (22, 0) rfl) 0 rfl rfl (by omega) (by decide) d_Mod_widen_5 ?_
  rw [ew]
  refine nw_istore_n X (lv' := [(2, _), (0, _), (1, _)]) d_Mod_widen_6 rfl hl (by decide) rfl (fun ls hl => ?_)
  refine nw_iconst X 0 d_Mod_widen_7 (by decide) ?_
  refine nw_istore_n X (lv' := [(3, _), (2, _), (0, _), (1, _)]) d_Mod_widen_8 rfl hl (by decide) rfl (fun ls hl => ?_)
  have LP9 : ∀ (d a : Nat) (σ1 : hw_M) (H : Heap) (locs : List Loc) (ls : Array Slot), w i - a < d → (a ≤ w i) → (∀ u : hw_P, u ≠ (27, 0) → σ1 u = σ u) → (∀ y, y < a → σ1 (27, 0) y = ex_it (tb_s (zz_n z) r9 w p9 c9 i) 0 y) → zz_V z σ1 s.heap H locs →  lv_has ls 6 [(0, .ref (zz_A z (20, 0))), (1, .int (nI i)), (2, .int (nI (w i))), (3, .int (nI a))] →  W p l e (hw_r 2) s m args below meth c H locs 0 0 Q (F0 m 9 ls []) := by
    intro d
    induction d with
    | zero => intro a σ1 H locs ls hd; exact absurd hd (Nat.not_lt_zero _)
    | succ d IH9 =>
      intro a σ1 H locs ls hd haN hfr hv V hl
      have hB := V.1.2.2
      refine nw_iload_n X d_Mod_widen_9 rfl (lv_at hl 3 rfl) ?_
      refine nw_iload_n X d_Mod_widen_10 rfl (lv_at hl 2 rfl) ?_
      refine nw_icmp_ge X (tgt := 27) d_Mod_widen_11 (by decide) (by first | assumption | omega) (by first | assumption | omega) (fun ha => ?_) (fun ha => ?_)
      · skip
        refine nw_iconst X 0 d_Mod_widen_27 (by decide) ?_
        refine nw_istore_n X (lv' := [(3, _), (0, _), (1, _), (2, _)]) d_Mod_widen_28 rfl hl (by decide) rfl (fun ls hl => ?_)
        have LP29 : ∀ (d y : Nat) (σ2 : hw_M) (H : Heap) (locs : List Loc) (ls : Array Slot), r9 i - y < d → (y ≤ r9 i) → (mt_q σ σ2) → (σ2 (26, 0) = σ (26, 0)) → (∀ a9, a9 < w i → σ2 (27, 0) a9 = ex_it (tb_s (zz_n z) r9 w p9 c9 i) y a9) → (∀ u v, u < r9 i * w i → v < y * w i → σ2 (25, 0) (128 * u + v) = ex_op (w i) (r9 i) (p9 i) (tw_op (zz_n z) r9 w p9 c9 (zz_n z - (i + 1))) (tb_s (zz_n z) r9 w p9 c9 i) (u) (v)) → (tl_ok z σ2 r9 w p9 c9 (zz_n z - (i + 1))) → zz_V z σ2 s.heap H locs →  lv_has ls 6 [(0, .ref (zz_A z (20, 0))), (1, .int (nI i)), (2, .int (nI (w i))), (3, .int (nI y))] →  W p l e (hw_r 2) s m args below meth c H locs 0 0 Q (F0 m 29 ls []) := by
          intro d
          induction d with
          | zero => intro y σ2 H locs ls hd; exact absurd hd (Nat.not_lt_zero _)
          | succ d IH29 =>
            intro y σ2 H locs ls hd hyN hfr h26 hmn hdn htl V hl
            have hB := V.1.2.2
            have er1 : σ2 (21, 0) = σ (21, 0) := mt_at hfr (by decide) 0
            have eo1 : σ2 (26, 0) = σ (26, 0) := h26
            refine nw_iload_n X d_Mod_widen_29 rfl (lv_at hl 3 rfl) ?_
            refine nw_aload_n X d_Mod_widen_30 rfl (lv_at hl 0 rfl) ?_
            refine gf_Mod_7 X V (hz (20, 0) rfl) d_Mod_widen_31 ?_
            refine nw_iload_n X d_Mod_widen_34 rfl (lv_at hl 1 rfl) ?_
            refine hw_iald X V (hz (21, 0) rfl) 0 rfl rfl (by omega) (by decide) d_Mod_widen_35 ?_
            rw [er1, er]
            refine nw_icmp_ge X (tgt := 124) d_Mod_widen_36 (by decide) (by first | assumption | omega) (by first | assumption | omega) (fun hy => ?_) (fun hy => ?_)
            · skip
              exact hret _ _ _ _ _ d_Mod_widen_124 V ⟨hfr, tl_wide hw hi (by rw [show y = r9 i by omega] at hdn; exact hdn)⟩
            · skip
              refine nw_iconst X 0 d_Mod_widen_39 (by decide) ?_
              refine nw_istore X (lv' := [(4, _), (0, _), (1, _), (2, _), (3, _)]) d_Mod_widen_40 hl (by decide) rfl (fun ls hl => ?_)
              have LP42 : ∀ (d x : Nat) (σ3 : hw_M) (H : Heap) (locs : List Loc) (ls : Array Slot), r9 i - x < d → (x ≤ r9 i) → (mt_q σ σ3) → (σ3 (26, 0) = σ (26, 0)) → (∀ a9, a9 < w i → σ3 (27, 0) a9 = ex_it (tb_s (zz_n z) r9 w p9 c9 i) y a9) → (∀ u v, u < r9 i * w i → v < y * w i → σ3 (25, 0) (128 * u + v) = ex_op (w i) (r9 i) (p9 i) (tw_op (zz_n z) r9 w p9 c9 (zz_n z - (i + 1))) (tb_s (zz_n z) r9 w p9 c9 i) (u) (v)) → (tl_ok z σ3 r9 w p9 c9 (zz_n z - (i + 1))) → (∀ u b, u < x * w i → b < w i → σ3 (25, 0) (128 * u + (y * w i + b)) = ex_op (w i) (r9 i) (p9 i) (tw_op (zz_n z) r9 w p9 c9 (zz_n z - (i + 1))) (tb_s (zz_n z) r9 w p9 c9 i) (u) (y * w i + b)) → zz_V z σ3 s.heap H locs →  lv_has ls 6 [(0, .ref (zz_A z (20, 0))), (1, .int (nI i)), (2, .int (nI (w i))), (3, .int (nI y)), (4, .int (nI x))] →  W p l e (hw_r 2) s m args below meth c H locs 0 0 Q (F0 m 42 ls []) := by
                intro d
                induction d with
                | zero => intro x σ3 H locs ls hd; exact absurd hd (Nat.not_lt_zero _)
                | succ d IH42 =>
                  intro x σ3 H locs ls hd hxN hfr h26 hmn hdn htl hrw V hl
                  have hB := V.1.2.2
                  have er1 : σ3 (21, 0) = σ (21, 0) := mt_at hfr (by decide) 0
                  have eo1 : σ3 (26, 0) = σ (26, 0) := h26
                  refine nw_iload X d_Mod_widen_42 (lv_at hl 4 rfl) ?_
                  refine nw_aload_n X d_Mod_widen_44 rfl (lv_at hl 0 rfl) ?_
                  refine gf_Mod_7 X V (hz (20, 0) rfl) d_Mod_widen_45 ?_
                  refine nw_iload_n X d_Mod_widen_48 rfl (lv_at hl 1 rfl) ?_
                  refine hw_iald X V (hz (21, 0) rfl) 0 rfl rfl (by omega) (by decide) d_Mod_widen_49 ?_
                  rw [er1, er]
                  refine nw_icmp_ge X (tgt := 84) d_Mod_widen_50 (by decide) (by first | assumption | omega) (by first | assumption | omega) (fun hx => ?_) (fun hx => ?_)
                  · skip
                    have hdn2 : ∀ u v, u < r9 i * w i → v < (y + 1) * w i → σ3 (25, 0) (128 * u + v) = ex_op (w i) (r9 i) (p9 i) (tw_op (zz_n z) r9 w p9 c9 (zz_n z - (i + 1))) (tb_s (zz_n z) r9 w p9 c9 i) (u) (v) := tl_col (F := fun u v => σ3 (25, 0) (128 * u + v) = ex_op (w i) (r9 i) (p9 i) (tw_op (zz_n z) r9 w p9 c9 (zz_n z - (i + 1))) (tb_s (zz_n z) r9 w p9 c9 i) (u) (v)) hdn (by rw [show x = r9 i by omega] at hrw; exact hrw)
                    refine nw_iconst X 0 d_Mod_widen_84 (by decide) ?_
                    refine nw_istore X (lv' := [(4, _), (0, _), (1, _), (2, _), (3, _)]) d_Mod_widen_85 hl (by decide) rfl (fun ls hl => ?_)
                    have LP87 : ∀ (d a : Nat) (σ6 : hw_M) (H : Heap) (locs : List Loc) (ls : Array Slot), w i - a < d → (a ≤ w i) → (mt_q σ σ6) → (σ6 (26, 0) = σ (26, 0)) → (∀ a9, a9 < a → σ6 (27, 0) a9 = ex_it (tb_s (zz_n z) r9 w p9 c9 i) (y + 1) a9) → (∀ a9, a ≤ a9 → a9 < w i → σ6 (27, 0) a9 = ex_it (tb_s (zz_n z) r9 w p9 c9 i) y a9) → (∀ u v, u < r9 i * w i → v < (y + 1) * w i → σ6 (25, 0) (128 * u + v) = ex_op (w i) (r9 i) (p9 i) (tw_op (zz_n z) r9 w p9 c9 (zz_n z - (i + 1))) (tb_s (zz_n z) r9 w p9 c9 i) (u) (v)) → (tl_ok z σ6 r9 w p9 c9 (zz_n z - (i + 1))) → zz_V z σ6 s.heap H locs →  lv_has ls 6 [(0, .ref (zz_A z (20, 0))), (1, .int (nI i)), (2, .int (nI (w i))), (3, .int (nI y)), (4, .int (nI a))] →  W p l e (hw_r 2) s m args below meth c H locs 0 0 Q (F0 m 87 ls []) := by
                      intro d
                      induction d with
                      | zero => intro a σ6 H locs ls hd; exact absurd hd (Nat.not_lt_zero _)
                      | succ d IH87 =>
                        intro a σ6 H locs ls hd haN hfr h26 hnew hold hdn2 htl V hl
                        have hB := V.1.2.2
                        refine nw_iload X d_Mod_widen_87 (lv_at hl 4 rfl) ?_
                        refine nw_iload_n X d_Mod_widen_89 rfl (lv_at hl 2 rfl) ?_
                        refine nw_icmp_ge X (tgt := 118) d_Mod_widen_90 (by decide) (by first | assumption | omega) (by first | assumption | omega) (fun ha => ?_) (fun ha => ?_)
                        · skip
                          refine nw_iinc X (lv' := [(3, _), (0, _), (1, _), (2, _), (4, _)]) (k := 3) 1 d_Mod_widen_118 hl rfl (by decide) (by decide) rfl (fun ls hl => ?_)
                          refine nw_goto X (tgt := 29) d_Mod_widen_121 (by decide) ?_
                          exact IH29 (y + 1) _ _ _ _ (by omega) hy hfr h26 (fun a9 h9 => hnew a9 (by omega)) hdn2 htl V (lv_sub hl [1, 2, 3, 0] rfl)
                        · skip
                          have hom := hold a (Nat.le_refl _) ha
                          have hlm : ex_it (tb_s (zz_n z) r9 w p9 c9 i) y a < w i := tb_it_l hw hi hk hc6 ha y
                          refine nw_aload_n X d_Mod_widen_93 rfl (lv_at hl 0 rfl) ?_
                          refine gf_Mod_28 X V (hz (20, 0) rfl) d_Mod_widen_94 ?_
                          refine nw_iload X d_Mod_widen_97 (lv_at hl 4 rfl) ?_
                          refine nw_aload_n X d_Mod_widen_99 rfl (lv_at hl 0 rfl) ?_
                          refine gf_Mod_25 X V (hz (20, 0) rfl) d_Mod_widen_100 ?_
                          refine nw_aload_n X d_Mod_widen_103 rfl (lv_at hl 0 rfl) ?_
                          refine gf_Mod_28 X V (hz (20, 0) rfl) d_Mod_widen_104 ?_
                          refine nw_iload X d_Mod_widen_107 (lv_at hl 4 rfl) ?_
                          refine hw_iald X V (hz (27, 0) rfl) 0 rfl rfl (by omega) (by decide) d_Mod_widen_109 ?_
                          refine hw_iald X V (hz (26, 0) rfl) 0 rfl rfl (by rw [hom]; omega) (by decide) d_Mod_widen_110 ?_
                          refine hw_iast X V (hz (27, 0) rfl) 0 (fun _ => rfl) rfl (by omega) (by decide) (hB _ _) d_Mod_widen_111 (fun H locs V => ?_)
                          refine nw_iinc X (lv' := [(4, _), (0, _), (1, _), (2, _), (3, _)]) (k := 4) 1 d_Mod_widen_112 hl rfl (by decide) (by decide) rfl (fun ls hl => ?_)
                          refine nw_goto X (tgt := 87) d_Mod_widen_115 (by decide) ?_
                          exact IH87 (a + 1) _ _ _ _ (by omega) ha (hfr.tr (mt_27 (fun u hu => hw_up_k _ _ _ hu))) ((hw_up_k _ _ _ (hw_ne (by decide))).trans h26) (fm_put hnew (by rw [hom, h26, hon _ hlm]; rfl)) (fun a9 h1 h2 => by rw [hw_up_i _ _ _ (by omega)]; exact hold a9 (by omega) h2) (by rw [hw_up_k _ _ _ (hw_ne (by decide))]; exact hdn2) (tl_mv (hw_up_k _ _ _ (hw_ne (by decide))) htl) V (lv_sub hl [1, 2, 3, 4, 0] rfl)
                    exact LP87 (w i + 1) 0 _ _ _ _ (by omega) (Nat.zero_le _) hfr h26 (fun a9 h => absurd h (Nat.not_lt_zero _)) (fun a9 _ h2 => hmn a9 h2) hdn2 htl V (lv_sub hl [1, 2, 3, 4, 0] rfl)
                  · skip
                    refine nw_iconst X 0 d_Mod_widen_53 (by decide) ?_
                    refine nw_istore X (lv' := [(5, _), (0, _), (1, _), (2, _), (3, _), (4, _)]) d_Mod_widen_54 hl (by decide) rfl (fun ls hl => ?_)
                    have LP56 : ∀ (d a : Nat) (σ4 : hw_M) (H : Heap) (locs : List Loc) (ls : Array Slot), w i - a < d → (a ≤ w i) → (mt_q σ σ4) → (σ4 (26, 0) = σ (26, 0)) → (∀ a9, a9 < w i → σ4 (27, 0) a9 = ex_it (tb_s (zz_n z) r9 w p9 c9 i) y a9) → (∀ u v, u < r9 i * w i → v < y * w i → σ4 (25, 0) (128 * u + v) = ex_op (w i) (r9 i) (p9 i) (tw_op (zz_n z) r9 w p9 c9 (zz_n z - (i + 1))) (tb_s (zz_n z) r9 w p9 c9 i) (u) (v)) → (tl_ok z σ4 r9 w p9 c9 (zz_n z - (i + 1))) → (∀ u b, u < x * w i + a → b < w i → σ4 (25, 0) (128 * u + (y * w i + b)) = ex_op (w i) (r9 i) (p9 i) (tw_op (zz_n z) r9 w p9 c9 (zz_n z - (i + 1))) (tb_s (zz_n z) r9 w p9 c9 i) (u) (y * w i + b)) → zz_V z σ4 s.heap H locs →  lv_has ls 6 [(0, .ref (zz_A z (20, 0))), (1, .int (nI i)), (2, .int (nI (w i))), (3, .int (nI y)), (4, .int (nI x)), (5, .int (nI a))] →  W p l e (hw_r 2) s m args below meth c H locs 0 0 Q (F0 m 56 ls []) := by
                      intro d
                      induction d with
                      | zero => intro a σ4 H locs ls hd; exact absurd hd (Nat.not_lt_zero _)
                      | succ d IH56 =>
                        intro a σ4 H locs ls hd haN hfr h26 hmn hdn htl hrw V hl
                        have hB := V.1.2.2
                        refine nw_iload X d_Mod_widen_56 (lv_at hl 5 rfl) ?_
                        refine nw_iload_n X d_Mod_widen_58 rfl (lv_at hl 2 rfl) ?_
                        refine nw_icmp_ge X (tgt := 78) d_Mod_widen_59 (by decide) (by first | assumption | omega) (by first | assumption | omega) (fun ha => ?_) (fun ha => ?_)
                        · skip
                          refine nw_iinc X (lv' := [(4, _), (0, _), (1, _), (2, _), (3, _), (5, _)]) (k := 4) 1 d_Mod_widen_78 hl rfl (by decide) (by decide) rfl (fun ls hl => ?_)
                          refine nw_goto X (tgt := 42) d_Mod_widen_81 (by decide) ?_
                          exact IH42 (x + 1) _ _ _ _ (by omega) hx hfr h26 hmn hdn htl (by rw [Nat.add_mul, Nat.one_mul]; rw [show a = w i by omega] at hrw; exact hrw) V (lv_sub hl [1, 2, 3, 4, 0] rfl)
                        · skip
                          refine nw_aload_n X d_Mod_widen_62 rfl (lv_at hl 0 rfl) ?_
                          refine nw_iload_n X d_Mod_widen_63 rfl (lv_at hl 1 rfl) ?_
                          refine nw_iload X d_Mod_widen_64 (lv_at hl 4 rfl) ?_
                          refine nw_iload_n X d_Mod_widen_66 rfl (lv_at hl 3 rfl) ?_
                          refine nw_iload X d_Mod_widen_67 (lv_at hl 5 rfl) ?_
                          refine hw_callv X V (hz (20, 0) rfl) rfl rfl (cm_Mod_enter l z σ4 hz (mt_d hfr hD) r9 w p9 c9 (mt_r hfr hR) i hi hk htl x y a hx hy ha hmn) cs_Mod_63 (by decide) rfl hl.1 rfl (Nat.le_of_ble_eq_true rfl) (by decide) d_Mod_widen_69 (fun σ5 H locs V hr => ?_)
                          obtain ⟨f5, o5, i5, t5⟩ := hr
                          have hB := V.1.2.2
                          have h5 := tl_put hq.1 hq.2.2.1 hx hy ha o5 i5 hdn hrw
                          refine nw_iinc X (lv' := [(5, _), (0, _), (1, _), (2, _), (3, _), (4, _)]) (k := 5) 1 d_Mod_widen_72 hl rfl (by decide) (by decide) rfl (fun ls hl => ?_)
                          refine nw_goto X (tgt := 56) d_Mod_widen_75 (by decide) ?_
                          exact IH56 (a + 1) _ _ _ _ (by omega) ha (hfr.tr (mt_25 f5)) ((f5 (26, 0) (hw_ne (by decide))).trans h26) (by rw [f5 (27, 0) (hw_ne (by decide))]; exact hmn) h5.1 t5 h5.2 V (lv_sub hl [1, 2, 3, 4, 5, 0] rfl)
                    exact LP56 (w i + 1) 0 _ _ _ _ (by omega) (Nat.zero_le _) hfr h26 hmn hdn htl hrw V (lv_sub hl [1, 2, 3, 4, 5, 0] rfl)
              exact LP42 (r9 i + 1) 0 _ _ _ _ (by omega) (Nat.zero_le _) hfr h26 hmn hdn htl (fun u b hu => by rw [Nat.zero_mul] at hu; exact absurd hu (Nat.not_lt_zero _)) V (lv_sub hl [1, 2, 3, 4, 0] rfl)
        exact LP29 (r9 i + 1) 0 _ _ _ _ (by omega) (Nat.zero_le _) (mt_27 hfr) (hfr (26, 0) (hw_ne (by decide))) (fun a9 h9 => hv a9 (by omega)) (fun u v _ hv9 => by rw [Nat.zero_mul] at hv9; exact absurd hv9 (Nat.not_lt_zero _)) (tl_mv (hfr (25, 0) (hw_ne (by decide))) hT) V (lv_sub hl [1, 2, 3, 0] rfl)
      · skip
        refine nw_aload_n X d_Mod_widen_14 rfl (lv_at hl 0 rfl) ?_
        refine gf_Mod_28 X V (hz (20, 0) rfl) d_Mod_widen_15 ?_
        refine nw_iload_n X d_Mod_widen_18 rfl (lv_at hl 3 rfl) ?_
        refine nw_iload_n X d_Mod_widen_19 rfl (lv_at hl 3 rfl) ?_
        refine hw_iast X V (hz (27, 0) rfl) 0 (fun _ => rfl) rfl (by omega) (by decide) (by omega) d_Mod_widen_20 (fun H locs V => ?_)
        refine nw_iinc X (lv' := [(3, _), (0, _), (1, _), (2, _)]) (k := 3) 1 d_Mod_widen_21 hl rfl (by decide) (by decide) rfl (fun ls hl => ?_)
        refine nw_goto X (tgt := 9) d_Mod_widen_24 (by decide) ?_
        exact IH9 (a + 1) _ _ _ _ (by omega) ha (fun u hu => (hw_up_k _ _ _ hu).trans (hfr u hu)) (fm_put hv rfl) V (lv_sub hl [1, 2, 3, 0] rfl)
  exact LP9 (w i + 1) 0 _ _ _ _ (by omega) (Nat.zero_le _) (fun _ _ => rfl) (fun y hy => absurd hy (Nat.not_lt_zero _)) V (lv_sub hl [2, 3, 1, 0] rfl)
set_option maxHeartbeats 4000000 in
set_option maxRecDepth 20000 in
theorem cm_Mod_build (l : Launch) (z : zz_Z) (σ : hw_M) (hz : ∀ k, zz_k (zz_n z) k → zz_O z k) (hD : md_ok z σ) (r9 w p9 : Nat → Nat) (c9 : Nat → Nat → Nat) (hR : mr_ok z σ r9 w p9 c9) : Met l y_Mod_build (hw_c y_Mod_build b_Mod_build 4 (some .boolean)) (hw_r 3) (va_Pc [.ref (zz_A z (20, 0))] (zz_B z σ)) (va_Qi (fun r σ' => ∃ b, b < 2 ∧ r = nI b ∧ (fun b σ' => mt_q σ σ' ∧ (b = 1 ↔ tw_ok (zz_n z) r9 w p9 c9 (zz_n z)) ∧ (b = 1 → tl_ok z σ' r9 w p9 c9 (zz_n z))) b σ') (zz_B z) (zz_F z)) 0 0 (zz_F z) := by
  refine hw_metz (post := (fun b σ' => mt_q σ σ' ∧ (b = 1 ↔ tw_ok (zz_n z) r9 w p9 c9 (zz_n z)) ∧ (b = 1 → tl_ok z σ' r9 w p9 c9 (zz_n z)))) (by decide) (Nat.le_of_ble_eq_true rfl) ?_
  intro p e s m args below meth c ls Q X hret V hl
  have hl : lv_has ls 4 [(0, .ref (zz_A z (20, 0)))] := hl
  have hB := V.1.2.2
  obtain ⟨hn7, hN, hn, hNe, h29, h30, h31⟩ := id hD
  obtain ⟨hw, hsz, hri, hcj⟩ := id hR
  refine nw_aload_n X d_Mod_build_0 rfl (lv_at hl 0 rfl) ?_
  refine gf_Mod_22 X V (hz (20, 0) rfl) d_Mod_build_1 ?_
  refine nw_iconst X 0 d_Mod_build_4 (by decide) ?_
  refine nw_iconst X 0 d_Mod_build_5 (by decide) ?_
  refine hw_iast X V (hz (25, 0) rfl) 0 (fun _ => rfl) rfl (by decide) (by decide) (by decide) d_Mod_build_6 (fun H locs V => ?_)
  have hB := V.1.2.2
  refine nw_iconst X 1 d_Mod_build_7 (by decide) ?_
  refine nw_istore_n X (lv' := [(1, _), (0, _)]) d_Mod_build_8 rfl hl (by decide) rfl (fun ls hl => ?_)
  refine nw_aload_n X d_Mod_build_9 rfl (lv_at hl 1 rfl) ?_
  refine gf_Mod_44 X V (hz (20, 0) rfl) d_Mod_build_10 ?_
  rw [hw_up_k _ _ _ (hw_ne (by decide)), hn]
  refine nw_iconst X 1 d_Mod_build_13 (by decide) ?_
  refine nw_isub1 X d_Mod_build_14 ?_
  refine nw_istore_n X (lv' := [(2, _), (1, _), (0, _)]) d_Mod_build_15 rfl hl (by decide) rfl (fun ls hl => ?_)
  have LP16 : ∀ (d k g9 : Nat) (σ1 : hw_M) (H : Heap) (locs : List Loc) (ls : Array Slot), k < d → (k ≤ zz_n z) → (mt_q σ σ1) → (g9 < 2) → (((g9 = 1 ∧ tw_ok (zz_n z) r9 w p9 c9 (zz_n z - k) ∧ tl_ok z σ1 r9 w p9 c9 (zz_n z - k)) ∨ (g9 = 0 ∧ ¬ tw_ok (zz_n z) r9 w p9 c9 (zz_n z)))) → zz_V z σ1 s.heap H locs →  lv_has ls 4 [(0, .ref (zz_A z (20, 0))), (1, .int (nI g9)), (2, .int (nI k - 1))] →  W p l e (hw_r 3) s m args below meth c H locs 0 0 Q (F0 m 16 ls []) := by
    intro d
    induction d with
    | zero => intro k g9 σ1 H locs ls hd; exact absurd hd (Nat.not_lt_zero _)
    | succ d IH16 =>
      intro k g9 σ1 H locs ls hd hkn hfr hg2 hst V hl
      have hB := V.1.2.2
      refine nw_iload_n X d_Mod_build_16 rfl (lv_at hl 2 rfl) ?_
      refine nw_if_ltp X (tgt := 75) d_Mod_build_17 (by decide) (by omega) (fun hk0 => ?_) (fun i hki => ?_)
      · skip
        subst hk0
        refine nw_iload_n X d_Mod_build_75 rfl (lv_at hl 1 rfl) ?_
        exact hret _ _ _ _ _ _ d_Mod_build_76 V hg2 ⟨hfr, ⟨fun q => by rcases hst with h | h; exact h.2.1; omega, fun q => by rcases hst with h | h; exact h.1; exact absurd q h.2⟩, fun q => by rcases hst with h | h; exact h.2.2; omega⟩
      · skip
        subst hki
        rw [nI_pred] at hl
        have hi : i < zz_n z := hkn
        have hD1 := mt_d hfr hD
        have hR1 := mt_r hfr hR
        have hq := mr_lv hR hN hi
        obtain ⟨er, ew, ep, hp⟩ := hri i hi
        refine nw_iload_n X d_Mod_build_20 rfl (lv_at hl 1 rfl) ?_
        refine nw_if_eq X (tgt := 75) d_Mod_build_21 (by decide) (by omega) (fun hg0 => ?_) (fun hg0 => ?_)
        · skip
          refine nw_iload_n X d_Mod_build_75 rfl (lv_at hl 1 rfl) ?_
          exact hret _ _ _ _ _ _ d_Mod_build_76 V hg2 ⟨hfr, ⟨fun q => by omega, fun q => by rcases hst with h | h; exact h.1; exact absurd q h.2⟩, fun q => by omega⟩
        · skip
          obtain ⟨hg1, hk, hT⟩ : g9 = 1 ∧ tw_ok (zz_n z) r9 w p9 c9 (zz_n z - (i + 1)) ∧ tl_ok z σ1 r9 w p9 c9 (zz_n z - (i + 1)) := by rcases hst with h | h; exact h; omega
          have hc6 : ∀ j, i < j → j < zz_n z → c9 i j < w i := fun j h1 h2 => (hcj i j h1 h2).2
          refine nw_iconst X 0 d_Mod_build_24 (by decide) ?_
          refine nw_istore_n X (lv' := [(3, _), (0, _), (1, _), (2, _)]) d_Mod_build_25 rfl hl (by decide) rfl (fun ls hl => ?_)
          have LP26 : ∀ (d a : Nat) (σ2 : hw_M) (H : Heap) (locs : List Loc) (ls : Array Slot), w i - a < d → (a ≤ w i) → (∀ u : hw_P, u ≠ (26, 0) → σ2 u = σ1 u) → (∀ y, y < a → σ2 (26, 0) y = (tb_s (zz_n z) r9 w p9 c9 i) y) → zz_V z σ2 s.heap H locs →  lv_has ls 4 [(0, .ref (zz_A z (20, 0))), (2, .int (nI i)), (3, .int (nI a))] →  W p l e (hw_r 3) s m args below meth c H locs 0 0 Q (F0 m 26 ls []) := by
            intro d
            induction d with
            | zero => intro a σ2 H locs ls hd; exact absurd hd (Nat.not_lt_zero _)
            | succ d IH26 =>
              intro a σ2 H locs ls hd haN hf9 hv V hl
              have hB := V.1.2.2
              have hfr2 := hfr.tr (mt_26 hf9)
              have hD2 := mt_d hfr2 hD
              have hR2 := mt_r hfr2 hR
              have hT2 := tl_mv (hf9 (25, 0) (hw_ne (by decide))) hT
              have e22 : σ2 (22, 0) = σ (22, 0) := mt_at hfr2 (by decide) 0
              refine nw_iload_n X d_Mod_build_26 rfl (lv_at hl 2 rfl) ?_
              refine nw_aload_n X d_Mod_build_27 rfl (lv_at hl 0 rfl) ?_
              refine gf_Mod_13 X V (hz (20, 0) rfl) d_Mod_build_28 ?_
              refine nw_iload_n X d_Mod_build_31 rfl (lv_at hl 1 rfl) ?_
              refine hw_iald X V (hz (22, 0) rfl) 0 rfl rfl (by omega) (by decide) d_Mod_build_32 ?_
              rw [e22, ew]
              refine nw_icmp_ge X (tgt := 54) d_Mod_build_33 (by decide) (by first | assumption | omega) (by first | assumption | omega) (fun ha => ?_) (fun ha => ?_)
              · skip
                refine nw_aload_n X d_Mod_build_54 rfl (lv_at hl 0 rfl) ?_
                refine nw_iload_n X d_Mod_build_55 rfl (lv_at hl 1 rfl) ?_
                refine hw_calli X V (hz (20, 0) rfl) rfl rfl (cm_Mod_turns l z σ2 hz hD2 r9 w p9 c9 hR2 i hi hk hT2 (fun y hy => hv y (by omega))) cs_Mod_70 (by decide) rfl hl.1 rfl (Nat.le_of_ble_eq_true rfl) (by decide) d_Mod_build_56 (fun r σ' H locs V hr => ?_)
                obtain ⟨b1, hb1, rfl, hσ, hbp⟩ := hr
                rw [hσ] at V
                clear hσ
                have hB := V.1.2.2
                refine nw_istore_n X (lv' := [(1, _), (0, _), (2, _), (3, _)]) d_Mod_build_59 rfl hl (by decide) rfl (fun ls hl => ?_)
                refine nw_iload_n X d_Mod_build_60 rfl (lv_at hl 0 rfl) ?_
                refine nw_if_eq X (tgt := 69) d_Mod_build_61 (by decide) (by omega) (fun hb0 => ?_) (fun hb0 => ?_)
                · skip
                  have hfn := hfr2
                  have hsn : ((b1 = 1 ∧ tw_ok (zz_n z) r9 w p9 c9 (zz_n z - i) ∧ tl_ok z σ2 r9 w p9 c9 (zz_n z - i)) ∨ (b1 = 0 ∧ ¬ tw_ok (zz_n z) r9 w p9 c9 (zz_n z))) := Or.inr ⟨hb0, fun q => by have := hbp.mpr (q.le (by omega)); omega⟩
                  refine nw_idec X (lv' := [(2, _), (1, _), (0, _), (3, _)]) (k := 2) d_Mod_build_69 hl rfl (by decide) rfl (fun ls hl => ?_)
                  refine nw_goto X (tgt := 16) d_Mod_build_72 (by decide) ?_
                  exact IH16 i b1 _ _ _ _ (by omega) (by omega) hfn hb1 hsn V (lv_sub hl [2, 1, 0] rfl)
                · skip
                  refine nw_aload_n X d_Mod_build_64 rfl (lv_at hl 1 rfl) ?_
                  refine nw_iload_n X d_Mod_build_65 rfl (lv_at hl 2 rfl) ?_
                  refine hw_callv X V (hz (20, 0) rfl) rfl rfl (cm_Mod_widen l z σ2 hz hD2 r9 w p9 c9 hR2 i hi hk hT2 (fun y hy => hv y (by omega))) cs_Mod_73 (by decide) rfl hl.1 rfl (Nat.le_of_ble_eq_true rfl) (by decide) d_Mod_build_66 (fun σ3 H locs V hr => ?_)
                  obtain ⟨f3, t3⟩ := hr
                  have hB := V.1.2.2
                  have hfn := hfr2.tr f3
                  have hb11 : b1 = 1 := by omega
                  have hsn : ((b1 = 1 ∧ tw_ok (zz_n z) r9 w p9 c9 (zz_n z - i) ∧ tl_ok z σ3 r9 w p9 c9 (zz_n z - i)) ∨ (b1 = 0 ∧ ¬ tw_ok (zz_n z) r9 w p9 c9 (zz_n z))) := Or.inl ⟨hb11, hbp.mp hb11, t3⟩
                  refine nw_idec X (lv' := [(2, _), (1, _), (0, _), (3, _)]) (k := 2) d_Mod_build_69 hl rfl (by decide) rfl (fun ls hl => ?_)
                  refine nw_goto X (tgt := 16) d_Mod_build_72 (by decide) ?_
                  exact IH16 i b1 _ _ _ _ (by omega) (by omega) hfn hb1 hsn V (lv_sub hl [2, 1, 0] rfl)
              · skip
                refine nw_aload_n X d_Mod_build_36 rfl (lv_at hl 0 rfl) ?_
                refine gf_Mod_25 X V (hz (20, 0) rfl) d_Mod_build_37 ?_
                refine nw_iload_n X d_Mod_build_40 rfl (lv_at hl 2 rfl) ?_
                refine nw_aload_n X d_Mod_build_41 rfl (lv_at hl 0 rfl) ?_
                refine nw_iload_n X d_Mod_build_42 rfl (lv_at hl 1 rfl) ?_
                refine nw_iload_n X d_Mod_build_43 rfl (lv_at hl 2 rfl) ?_
                refine hw_calli X V (hz (20, 0) rfl) rfl rfl (cm_Mod_letters l z σ2 hz hD2 r9 w p9 c9 hR2 i hi hk hT2 a (by omega)) cs_Mod_67 (by decide) rfl hl.1 rfl (Nat.le_of_ble_eq_true rfl) (by decide) d_Mod_build_44 (fun r σ' H locs V hr => ?_)
                obtain ⟨hσ, rfl⟩ := hr
                rw [hσ] at V
                clear hσ
                have hB := V.1.2.2
                refine hw_iast X V (hz (26, 0) rfl) 0 (fun _ => rfl) rfl (by omega) (by decide) (by have : (tb_s (zz_n z) r9 w p9 c9 i) a < w i := tb_s_l hw hi hk hc6 a; omega) d_Mod_build_47 (fun H locs V => ?_)
                refine nw_iinc X (lv' := [(3, _), (0, _), (2, _)]) (k := 2) 1 d_Mod_build_48 hl rfl (by decide) (by decide) rfl (fun ls hl => ?_)
                refine nw_goto X (tgt := 26) d_Mod_build_51 (by decide) ?_
                exact IH26 (a + 1) _ _ _ _ (by omega) ha (fun u hu => (hw_up_k _ _ _ hu).trans (hf9 u hu)) (fm_put hv rfl) V (lv_sub hl [1, 2, 0] rfl)
          exact LP26 (w i + 1) 0 _ _ _ _ (by omega) (Nat.zero_le _) (fun _ _ => rfl) (fun y hy => absurd hy (Nat.not_lt_zero _)) V (lv_sub hl [1, 3, 0] rfl)
  exact LP16 (zz_n z + 1) (zz_n z) 1 _ _ _ _ (by omega) (Nat.le_refl _) (mt_25 (fun u hu => hw_up_k _ _ _ hu)) (by decide) (Or.inl ⟨rfl, by rw [Nat.sub_self]; exact fun k hk => absurd hk (Nat.not_lt_zero _), by rw [Nat.sub_self]; exact tl_0⟩) V (lv_sub hl [2, 1, 0] rfl)
set_option maxHeartbeats 4000000 in
set_option maxRecDepth 20000 in
theorem cm_Mod_fix (l : Launch) (z : zz_Z) (σ : hw_M) (hz : ∀ k, zz_k (zz_n z) k → zz_O z k) (r9 w p9 : Nat → Nat) (c9 : Nat → Nat → Nat) (S : Nat → Nat → Prop) (hM : ms_ok z σ r9 w p9 c9 S) : Met l y_Mod_fix (hw_c y_Mod_fix b_Mod_fix 3 (some .boolean)) (hw_r 4) (va_Pc [.ref (zz_A z (20, 0))] (zz_B z σ)) (va_Qi (fun r σ' => ∃ b, b < 2 ∧ r = nI b ∧ (fun b σ' => b = cn_n (σ (20, 0) 6 = 1 ∨ tw_ok (zz_n z) r9 w p9 c9 (zz_n z)) 1 0 ∧ ms_ok z σ' r9 w p9 c9 (fun s v => (σ (20, 0) 6 = 1 ∧ S s v) ∨ (σ (20, 0) 6 ≠ 1 ∧ v = 0)) ∧ σ' (20, 0) 6 = b ∧ ∀ u : hw_P, u.1 < 20 → σ' u = σ u) b σ') (zz_B z) (zz_F z)) 0 0 (zz_F z) := by
  refine hw_metz (post := (fun b σ' => b = cn_n (σ (20, 0) 6 = 1 ∨ tw_ok (zz_n z) r9 w p9 c9 (zz_n z)) 1 0 ∧ ms_ok z σ' r9 w p9 c9 (fun s v => (σ (20, 0) 6 = 1 ∧ S s v) ∨ (σ (20, 0) 6 ≠ 1 ∧ v = 0)) ∧ σ' (20, 0) 6 = b ∧ ∀ u : hw_P, u.1 < 20 → σ' u = σ u)) (by decide) (Nat.le_of_ble_eq_true rfl) ?_
  intro p e s m args below meth c ls Q X hret V hl
  have hl : lv_has ls 3 [(0, .ref (zz_A z (20, 0)))] := hl
  have hB := V.1.2.2
  obtain ⟨hD, hR, hf2, hfx⟩ := id hM
  obtain ⟨hn7, hN, hn, hNe, h29, h30, h31⟩ := id hD
  obtain ⟨hw, hsz, hri, hcj⟩ := id hR
  refine nw_aload_n X d_Mod_fix_0 rfl (lv_at hl 0 rfl) ?_
  refine gf_Mod_55 X V (hz (20, 0) rfl) d_Mod_fix_1 ?_
  refine nw_if_eq X (tgt := 9) d_Mod_fix_4 (by decide) (by omega) (fun hf0 => ?_) (fun hf0 => ?_)
  · skip
    refine nw_aload_n X d_Mod_fix_9 rfl (lv_at hl 0 rfl) ?_
    refine nw_aload_n X d_Mod_fix_10 rfl (lv_at hl 0 rfl) ?_
    refine hw_calli X V (hz (20, 0) rfl) rfl rfl (cm_Mod_build l z σ hz hD r9 w p9 c9 hR) cs_Mod_77 (by decide) rfl hl.1 rfl (Nat.le_of_ble_eq_true rfl) (by decide) d_Mod_fix_11 (fun r σ1 H locs V hr => ?_)
    obtain ⟨b1, hb1, rfl, f1, hk1, ht1⟩ := hr
    have hB := V.1.2.2
    refine pf_Mod_55 X V (hz (20, 0) rfl) hb1 d_Mod_fix_14 (fun H locs V => ?_)
    have hB := V.1.2.2
    have f2 : ∀ u : hw_P, u ≠ (20, 0) → hw_up σ1 (20, 0) 6 b1 u = σ1 u := fun u hu => hw_up_k _ _ _ hu
    have hfl2 : hw_up σ1 (20, 0) 6 b1 (20, 0) 6 = b1 := hw_up_s _ _ _ _
    have hNe2 : hw_up σ1 (20, 0) 6 b1 (20, 0) 1 = zz_N z := by rw [hw_up_i _ _ _ (by decide), mt_at f1 (by decide) 0]; exact hNe
    have hn2 : hw_up σ1 (20, 0) 6 b1 (20, 0) 0 = zz_n z := by rw [hw_up_i _ _ _ (by decide), mt_at f1 (by decide) 0]; exact hn
    generalize hw_up σ1 (20, 0) 6 b1 = σ2 at V hB f2 hfl2 hNe2 hn2 ⊢
    refine nw_iconst X 0 d_Mod_fix_17 (by decide) ?_
    refine nw_istore_n X (lv' := [(1, _), (0, _)]) d_Mod_fix_18 rfl hl (by decide) rfl (fun ls hl => ?_)
    have LP19 : ∀ (d a : Nat) (σ3 : hw_M) (H : Heap) (locs : List Loc) (ls : Array Slot), zz_N z - a < d → (a ≤ zz_N z) → (∀ u : hw_P, u ≠ (28, 0) → σ3 u = σ2 u) → (b1 = 1 → ∀ a9, a9 < a → σ3 (28, 0) a9 = gp_iv (zz_N z) (tw_op (zz_n z) r9 w p9 c9 (zz_n z)) a9) → zz_V z σ3 s.heap H locs →  lv_has ls 3 [(0, .ref (zz_A z (20, 0))), (1, .int (nI a))] →  W p l e (hw_r 4) s m args below meth c H locs 0 0 Q (F0 m 19 ls []) := by
      intro d
      induction d with
      | zero => intro a σ3 H locs ls hd; exact absurd hd (Nat.not_lt_zero _)
      | succ d IH19 =>
        intro a σ3 H locs ls hd haN hfr hiv V hl
        have hB := V.1.2.2
        have e20 : σ3 (20, 0) = σ2 (20, 0) := hfr (20, 0) (hw_ne (by decide))
        have hNe1 : σ3 (20, 0) 1 = zz_N z := by rw [e20]; exact hNe2
        have hfl1 : σ3 (20, 0) 6 = b1 := by rw [e20]; exact hfl2
        refine nw_iload_n X d_Mod_fix_19 rfl (lv_at hl 1 rfl) ?_
        refine nw_aload_n X d_Mod_fix_20 rfl (lv_at hl 0 rfl) ?_
        refine gf_Mod_48 X V (hz (20, 0) rfl) d_Mod_fix_21 ?_
        rw [hNe1]
        refine nw_icmp_ge X (tgt := 72) d_Mod_fix_24 (by decide) (by first | assumption | omega) (by first | assumption | omega) (fun ha => ?_) (fun ha => ?_)
        · skip
          have hfin : b1 = 1 → ∀ a9, a9 < zz_N z → σ3 (28, 0) a9 = gp_iv (zz_N z) (tw_op (zz_n z) r9 w p9 c9 (zz_n z)) a9 := fun q a9 h => hiv q a9 (by omega)
          refine nw_iconst X 0 d_Mod_fix_72 (by decide) ?_
          refine nw_istore_n X (lv' := [(1, _), (0, _)]) d_Mod_fix_73 rfl hl (by decide) rfl (fun ls hl => ?_)
          have LP74 : ∀ (d k : Nat) (σ5 : hw_M) (H : Heap) (locs : List Loc) (ls : Array Slot), 512 - k < d → (k ≤ 512) → (∀ u : hw_P, u ≠ (29, 0) → σ5 u = σ3 u) → (∀ a, σ5 (29, 0) a < 2) → (∀ y, y < k → σ5 (29, 0) y = if y % 128 = 0 then 1 else 0) → zz_V z σ5 s.heap H locs →  lv_has ls 3 [(0, .ref (zz_A z (20, 0))), (1, .int (nI k))] →  W p l e (hw_r 4) s m args below meth c H locs 0 0 Q (F0 m 74 ls []) := by
            intro d
            induction d with
            | zero => intro k σ5 H locs ls hd; exact absurd hd (Nat.not_lt_zero _)
            | succ d IH74 =>
              intro k σ5 H locs ls hd hk5 hfr5 hb5 hv5 V hl
              have hB := V.1.2.2
              have hfl5 : σ5 (20, 0) 6 = b1 := by rw [hfr5 (20, 0) (hw_ne (by decide))]; exact hfl1
              refine nw_iload_n X d_Mod_fix_74 rfl (lv_at hl 1 rfl) ?_
              refine nw_sipush X 512 d_Mod_fix_75 (by decide) ?_
              refine nw_icmp_ge X (tgt := 113) d_Mod_fix_78 (by decide) (by omega) (by decide) (fun hkc => ?_) (fun hkc => ?_)
              · skip
                have hpl5 : b1 = 1 → ∀ y, y < 512 → σ5 (29, 0) y = if y % 128 = 0 then 1 else 0 := fun _ y hy => hv5 y (by omega)
                refine nw_aload_n X d_Mod_fix_113 rfl (lv_at hl 0 rfl) ?_
                refine gf_Mod_55 X V (hz (20, 0) rfl) d_Mod_fix_114 ?_
                rw [hfl5]
                exact hret _ _ _ _ _ _ d_Mod_fix_117 V hb1 (fx_mod hM hf0 hb1 f1 hk1 ht1 f2 hfl2 hNe2 hn2 hfr hfin hfr5 hb5 hpl5)
              · skip
                refine nw_aload_n X d_Mod_fix_81 rfl (lv_at hl 0 rfl) ?_
                refine gf_Mod_55 X V (hz (20, 0) rfl) d_Mod_fix_82 ?_
                rw [hfl5]
                refine nw_if_eq X (tgt := 113) d_Mod_fix_85 (by decide) (by omega) (fun hbz => ?_) (fun hbz => ?_)
                · skip
                  have hpl5 : b1 = 1 → ∀ y, y < 512 → σ5 (29, 0) y = if y % 128 = 0 then 1 else 0 := fun q => by omega
                  refine nw_aload_n X d_Mod_fix_113 rfl (lv_at hl 0 rfl) ?_
                  refine gf_Mod_55 X V (hz (20, 0) rfl) d_Mod_fix_114 ?_
                  rw [hfl5]
                  exact hret _ _ _ _ _ _ d_Mod_fix_117 V hb1 (fx_mod hM hf0 hb1 f1 hk1 ht1 f2 hfl2 hNe2 hn2 hfr hfin hfr5 hb5 hpl5)
                · skip
                  refine nw_aload_n X d_Mod_fix_88 rfl (lv_at hl 0 rfl) ?_
                  refine gf_Mod_34 X V (hz (20, 0) rfl) d_Mod_fix_89 ?_
                  refine nw_iload_n X d_Mod_fix_92 rfl (lv_at hl 1 rfl) ?_
                  refine nw_iload_n X d_Mod_fix_93 rfl (lv_at hl 1 rfl) ?_
                  refine nw_sipush X 128 d_Mod_fix_94 (by decide) ?_
                  refine nw_irem X (by omega) (by decide) (by decide) d_Mod_fix_97 ?_
                  refine nw_if_ne X (tgt := 105) d_Mod_fix_98 (by decide) (by omega) (fun hm0 => ?_) (fun hm0 => ?_)
                  · skip
                    have hx9 : 0 < 2 := by decide
                    have hx10 : 0 = if k % 128 = 0 then 1 else 0 := (if_neg hm0).symm
                    refine nw_iconst X 0 d_Mod_fix_105 (by decide) ?_
                    refine hw_zast X V (hz (29, 0) rfl) 1 (fun _ => rfl) rfl (by omega) (by decide) hx9 d_Mod_fix_106 (fun H locs V => ?_)
                    refine nw_iinc X (lv' := [(1, _), (0, _)]) (k := 1) 1 d_Mod_fix_107 hl rfl (by decide) (by decide) rfl (fun ls hl => ?_)
                    refine nw_goto X (tgt := 74) d_Mod_fix_110 (by decide) ?_
                    exact IH74 (k + 1) _ _ _ _ (by omega) hkc (fun u hu => (hw_up_k _ _ _ hu).trans (hfr5 u hu)) (md_up2 hb5 hx9) (fm_put hv5 hx10) V (lv_sub hl [1, 0] rfl)
                  · skip
                    have hx9 : 1 < 2 := by decide
                    have hx10 : 1 = if k % 128 = 0 then 1 else 0 := (if_pos hm0).symm
                    refine nw_iconst X 1 d_Mod_fix_101 (by decide) ?_
                    refine nw_goto X (tgt := 106) d_Mod_fix_102 (by decide) ?_
                    refine hw_zast X V (hz (29, 0) rfl) 1 (fun _ => rfl) rfl (by omega) (by decide) hx9 d_Mod_fix_106 (fun H locs V => ?_)
                    refine nw_iinc X (lv' := [(1, _), (0, _)]) (k := 1) 1 d_Mod_fix_107 hl rfl (by decide) (by decide) rfl (fun ls hl => ?_)
                    refine nw_goto X (tgt := 74) d_Mod_fix_110 (by decide) ?_
                    exact IH74 (k + 1) _ _ _ _ (by omega) hkc (fun u hu => (hw_up_k _ _ _ hu).trans (hfr5 u hu)) (md_up2 hb5 hx9) (fm_put hv5 hx10) V (lv_sub hl [1, 0] rfl)
          exact LP74 (512 + 1) 0 _ _ _ _ (by omega) (Nat.zero_le _) (fun _ _ => rfl) (by rw [hfr (29, 0) (hw_ne (by decide)), f2 (29, 0) (hw_ne (by decide)), mt_at f1 (by decide) 0]; exact h29) (fun y hy => absurd hy (Nat.not_lt_zero _)) V (lv_sub hl [1, 0] rfl)
        · skip
          refine nw_aload_n X d_Mod_fix_27 rfl (lv_at hl 0 rfl) ?_
          refine gf_Mod_55 X V (hz (20, 0) rfl) d_Mod_fix_28 ?_
          rw [hfl1]
          refine nw_if_eq X (tgt := 72) d_Mod_fix_31 (by decide) (by omega) (fun hbz => ?_) (fun hbz => ?_)
          · skip
            have hfin : b1 = 1 → ∀ a9, a9 < zz_N z → σ3 (28, 0) a9 = gp_iv (zz_N z) (tw_op (zz_n z) r9 w p9 c9 (zz_n z)) a9 := fun q => by omega
            refine nw_iconst X 0 d_Mod_fix_72 (by decide) ?_
            refine nw_istore_n X (lv' := [(1, _), (0, _)]) d_Mod_fix_73 rfl hl (by decide) rfl (fun ls hl => ?_)
            have LP74 : ∀ (d k : Nat) (σ5 : hw_M) (H : Heap) (locs : List Loc) (ls : Array Slot), 512 - k < d → (k ≤ 512) → (∀ u : hw_P, u ≠ (29, 0) → σ5 u = σ3 u) → (∀ a, σ5 (29, 0) a < 2) → (∀ y, y < k → σ5 (29, 0) y = if y % 128 = 0 then 1 else 0) → zz_V z σ5 s.heap H locs →  lv_has ls 3 [(0, .ref (zz_A z (20, 0))), (1, .int (nI k))] →  W p l e (hw_r 4) s m args below meth c H locs 0 0 Q (F0 m 74 ls []) := by
              intro d
              induction d with
              | zero => intro k σ5 H locs ls hd; exact absurd hd (Nat.not_lt_zero _)
              | succ d IH74 =>
                intro k σ5 H locs ls hd hk5 hfr5 hb5 hv5 V hl
                have hB := V.1.2.2
                have hfl5 : σ5 (20, 0) 6 = b1 := by rw [hfr5 (20, 0) (hw_ne (by decide))]; exact hfl1
                refine nw_iload_n X d_Mod_fix_74 rfl (lv_at hl 1 rfl) ?_
                refine nw_sipush X 512 d_Mod_fix_75 (by decide) ?_
                refine nw_icmp_ge X (tgt := 113) d_Mod_fix_78 (by decide) (by omega) (by decide) (fun hkc => ?_) (fun hkc => ?_)
                · skip
                  have hpl5 : b1 = 1 → ∀ y, y < 512 → σ5 (29, 0) y = if y % 128 = 0 then 1 else 0 := fun _ y hy => hv5 y (by omega)
                  refine nw_aload_n X d_Mod_fix_113 rfl (lv_at hl 0 rfl) ?_
                  refine gf_Mod_55 X V (hz (20, 0) rfl) d_Mod_fix_114 ?_
                  rw [hfl5]
                  exact hret _ _ _ _ _ _ d_Mod_fix_117 V hb1 (fx_mod hM hf0 hb1 f1 hk1 ht1 f2 hfl2 hNe2 hn2 hfr hfin hfr5 hb5 hpl5)
                · skip
                  refine nw_aload_n X d_Mod_fix_81 rfl (lv_at hl 0 rfl) ?_
                  refine gf_Mod_55 X V (hz (20, 0) rfl) d_Mod_fix_82 ?_
                  rw [hfl5]
                  refine nw_if_eq X (tgt := 113) d_Mod_fix_85 (by decide) (by omega) (fun hbz => ?_) (fun hbz => ?_)
                  · skip
                    have hpl5 : b1 = 1 → ∀ y, y < 512 → σ5 (29, 0) y = if y % 128 = 0 then 1 else 0 := fun q => by omega
                    refine nw_aload_n X d_Mod_fix_113 rfl (lv_at hl 0 rfl) ?_
                    refine gf_Mod_55 X V (hz (20, 0) rfl) d_Mod_fix_114 ?_
                    rw [hfl5]
                    exact hret _ _ _ _ _ _ d_Mod_fix_117 V hb1 (fx_mod hM hf0 hb1 f1 hk1 ht1 f2 hfl2 hNe2 hn2 hfr hfin hfr5 hb5 hpl5)
                  · skip
                    refine nw_aload_n X d_Mod_fix_88 rfl (lv_at hl 0 rfl) ?_
                    refine gf_Mod_34 X V (hz (20, 0) rfl) d_Mod_fix_89 ?_
                    refine nw_iload_n X d_Mod_fix_92 rfl (lv_at hl 1 rfl) ?_
                    refine nw_iload_n X d_Mod_fix_93 rfl (lv_at hl 1 rfl) ?_
                    refine nw_sipush X 128 d_Mod_fix_94 (by decide) ?_
                    refine nw_irem X (by omega) (by decide) (by decide) d_Mod_fix_97 ?_
                    refine nw_if_ne X (tgt := 105) d_Mod_fix_98 (by decide) (by omega) (fun hm0 => ?_) (fun hm0 => ?_)
                    · skip
                      have hx9 : 0 < 2 := by decide
                      have hx10 : 0 = if k % 128 = 0 then 1 else 0 := (if_neg hm0).symm
                      refine nw_iconst X 0 d_Mod_fix_105 (by decide) ?_
                      refine hw_zast X V (hz (29, 0) rfl) 1 (fun _ => rfl) rfl (by omega) (by decide) hx9 d_Mod_fix_106 (fun H locs V => ?_)
                      refine nw_iinc X (lv' := [(1, _), (0, _)]) (k := 1) 1 d_Mod_fix_107 hl rfl (by decide) (by decide) rfl (fun ls hl => ?_)
                      refine nw_goto X (tgt := 74) d_Mod_fix_110 (by decide) ?_
                      exact IH74 (k + 1) _ _ _ _ (by omega) hkc (fun u hu => (hw_up_k _ _ _ hu).trans (hfr5 u hu)) (md_up2 hb5 hx9) (fm_put hv5 hx10) V (lv_sub hl [1, 0] rfl)
                    · skip
                      have hx9 : 1 < 2 := by decide
                      have hx10 : 1 = if k % 128 = 0 then 1 else 0 := (if_pos hm0).symm
                      refine nw_iconst X 1 d_Mod_fix_101 (by decide) ?_
                      refine nw_goto X (tgt := 106) d_Mod_fix_102 (by decide) ?_
                      refine hw_zast X V (hz (29, 0) rfl) 1 (fun _ => rfl) rfl (by omega) (by decide) hx9 d_Mod_fix_106 (fun H locs V => ?_)
                      refine nw_iinc X (lv' := [(1, _), (0, _)]) (k := 1) 1 d_Mod_fix_107 hl rfl (by decide) (by decide) rfl (fun ls hl => ?_)
                      refine nw_goto X (tgt := 74) d_Mod_fix_110 (by decide) ?_
                      exact IH74 (k + 1) _ _ _ _ (by omega) hkc (fun u hu => (hw_up_k _ _ _ hu).trans (hfr5 u hu)) (md_up2 hb5 hx9) (fm_put hv5 hx10) V (lv_sub hl [1, 0] rfl)
            exact LP74 (512 + 1) 0 _ _ _ _ (by omega) (Nat.zero_le _) (fun _ _ => rfl) (by rw [hfr (29, 0) (hw_ne (by decide)), f2 (29, 0) (hw_ne (by decide)), mt_at f1 (by decide) 0]; exact h29) (fun y hy => absurd hy (Nat.not_lt_zero _)) V (lv_sub hl [1, 0] rfl)
          · skip
            have hb11 : b1 = 1 := by omega
            have htn := ht1 hb11
            have hkn := hk1.mp hb11
            have g : gp_ok (zz_N z) (tw_op (zz_n z) r9 w p9 c9 (zz_n z)) := by rw [hsz]; exact tw_all hw hkn
            refine nw_iconst X 0 d_Mod_fix_34 (by decide) ?_
            refine nw_istore_n X (lv' := [(2, _), (0, _), (1, _)]) d_Mod_fix_35 rfl hl (by decide) rfl (fun ls hl => ?_)
            have LP36 : ∀ (d b : Nat) (σ4 : hw_M) (H : Heap) (locs : List Loc) (ls : Array Slot), zz_N z - b < d → (b ≤ zz_N z) → (∀ u : hw_P, u ≠ (28, 0) → σ4 u = σ2 u) → (b1 = 1 → ∀ a9, a9 < a → σ4 (28, 0) a9 = gp_iv (zz_N z) (tw_op (zz_n z) r9 w p9 c9 (zz_n z)) a9) → (gp_iv (zz_N z) (tw_op (zz_n z) r9 w p9 c9 (zz_n z)) a < b → σ4 (28, 0) a = gp_iv (zz_N z) (tw_op (zz_n z) r9 w p9 c9 (zz_n z)) a) → zz_V z σ4 s.heap H locs →  lv_has ls 3 [(0, .ref (zz_A z (20, 0))), (1, .int (nI a)), (2, .int (nI b))] →  W p l e (hw_r 4) s m args below meth c H locs 0 0 Q (F0 m 36 ls []) := by
              intro d
              induction d with
              | zero => intro b σ4 H locs ls hd; exact absurd hd (Nat.not_lt_zero _)
              | succ d IH36 =>
                intro b σ4 H locs ls hd hbN hfr hiv hrow V hl
                have hB := V.1.2.2
                have e20 : σ4 (20, 0) = σ2 (20, 0) := hfr (20, 0) (hw_ne (by decide))
                have hNe1 : σ4 (20, 0) 1 = zz_N z := by rw [e20]; exact hNe2
                have hfl1 : σ4 (20, 0) 6 = b1 := by rw [e20]; exact hfl2
                have e25 : σ4 (25, 0) = σ1 (25, 0) := (hfr (25, 0) (hw_ne (by decide))).trans (f2 (25, 0) (hw_ne (by decide)))
                refine nw_iload_n X d_Mod_fix_36 rfl (lv_at hl 2 rfl) ?_
                refine nw_aload_n X d_Mod_fix_37 rfl (lv_at hl 0 rfl) ?_
                refine gf_Mod_48 X V (hz (20, 0) rfl) d_Mod_fix_38 ?_
                rw [hNe1]
                refine nw_icmp_ge X (tgt := 66) d_Mod_fix_41 (by decide) (by first | assumption | omega) (by first | assumption | omega) (fun hb => ?_) (fun hb => ?_)
                · skip
                  have hrow : gp_iv (zz_N z) (tw_op (zz_n z) r9 w p9 c9 (zz_n z)) a < zz_N z → σ4 (28, 0) a = gp_iv (zz_N z) (tw_op (zz_n z) r9 w p9 c9 (zz_n z)) a := fun h => hrow (by omega)
                  refine nw_iinc X (lv' := [(1, _), (0, _), (2, _)]) (k := 1) 1 d_Mod_fix_66 hl rfl (by decide) (by decide) rfl (fun ls hl => ?_)
                  refine nw_goto X (tgt := 19) d_Mod_fix_69 (by decide) ?_
                  exact IH19 (a + 1) _ _ _ _ (by omega) ha hfr (fun _ a9 h9 => by by_cases e : a9 = a; rw [e]; exact hrow (by have := g.ivl ha; omega); exact hiv hb11 a9 (by omega)) V (lv_sub hl [1, 0] rfl)
                · skip
                  refine nw_aload_n X d_Mod_fix_44 rfl (lv_at hl 0 rfl) ?_
                  refine nw_iload_n X d_Mod_fix_45 rfl (lv_at hl 1 rfl) ?_
                  refine nw_iload_n X d_Mod_fix_46 rfl (lv_at hl 2 rfl) ?_
                  refine hw_calli X V (hz (20, 0) rfl) rfl rfl (cm_Mod_of l z σ4 hz a b (by omega) (by omega)) cs_Mod_59 (by decide) rfl hl.1 rfl (Nat.le_of_ble_eq_true rfl) (by decide) d_Mod_fix_47 (fun r σ' H locs V hr => ?_)
                  obtain ⟨hσ, rfl⟩ := hr
                  rw [hσ] at V
                  clear hσ
                  have hB := V.1.2.2
                  rw [e25, htn a b (Nat.lt_of_lt_of_eq ha hsz) (Nat.lt_of_lt_of_eq hb hsz)]
                  refine nw_if_ne X (tgt := 60) d_Mod_fix_50 (by decide) (by have := g.lt ha hb; omega) (fun hoz => ?_) (fun hoz => ?_)
                  · skip
                    have hfr4 := hfr
                    have hiv4 := hiv
                    have hrow4 : gp_iv (zz_N z) (tw_op (zz_n z) r9 w p9 c9 (zz_n z)) a < b + 1 → σ4 (28, 0) a = gp_iv (zz_N z) (tw_op (zz_n z) r9 w p9 c9 (zz_n z)) a := fun h => by by_cases e : gp_iv (zz_N z) (tw_op (zz_n z) r9 w p9 c9 (zz_n z)) a = b; exact absurd (by rw [← e]; exact g.riv ha) hoz; exact hrow (by omega)
                    refine nw_iinc X (lv' := [(2, _), (0, _), (1, _)]) (k := 2) 1 d_Mod_fix_60 hl rfl (by decide) (by decide) rfl (fun ls hl => ?_)
                    refine nw_goto X (tgt := 36) d_Mod_fix_63 (by decide) ?_
                    exact IH36 (b + 1) _ _ _ _ (by omega) hb hfr4 hiv4 hrow4 V (lv_sub hl [1, 2, 0] rfl)
                  · skip
                    refine nw_aload_n X d_Mod_fix_53 rfl (lv_at hl 0 rfl) ?_
                    refine gf_Mod_31 X V (hz (20, 0) rfl) d_Mod_fix_54 ?_
                    refine nw_iload_n X d_Mod_fix_57 rfl (lv_at hl 1 rfl) ?_
                    refine nw_iload_n X d_Mod_fix_58 rfl (lv_at hl 2 rfl) ?_
                    refine hw_iast X V (hz (28, 0) rfl) 0 (fun _ => rfl) rfl (by omega) (by decide) (by omega) d_Mod_fix_59 (fun H locs V => ?_)
                    have hB := V.1.2.2
                    have hfr4 : ∀ u : hw_P, u ≠ (28, 0) → hw_up σ4 (28, 0) a b u = σ2 u := fun u hu => (hw_up_k _ _ _ hu).trans (hfr u hu)
                    have hiv4 : b1 = 1 → ∀ a9, a9 < a → hw_up σ4 (28, 0) a b (28, 0) a9 = gp_iv (zz_N z) (tw_op (zz_n z) r9 w p9 c9 (zz_n z)) a9 := fun q a9 h => by rw [hw_up_i _ _ _ (by omega)]; exact hiv q a9 h
                    have hrow4 : gp_iv (zz_N z) (tw_op (zz_n z) r9 w p9 c9 (zz_n z)) a < b + 1 → hw_up σ4 (28, 0) a b (28, 0) a = gp_iv (zz_N z) (tw_op (zz_n z) r9 w p9 c9 (zz_n z)) a := fun _ => by rw [hw_up_s]; exact g.ivu ha hb hoz
                    refine nw_iinc X (lv' := [(2, _), (0, _), (1, _)]) (k := 2) 1 d_Mod_fix_60 hl rfl (by decide) (by decide) rfl (fun ls hl => ?_)
                    refine nw_goto X (tgt := 36) d_Mod_fix_63 (by decide) ?_
                    exact IH36 (b + 1) _ _ _ _ (by omega) hb hfr4 hiv4 hrow4 V (lv_sub hl [1, 2, 0] rfl)
            exact LP36 (zz_N z + 1) 0 _ _ _ _ (by omega) (Nat.zero_le _) hfr hiv (fun h => absurd h (Nat.not_lt_zero _)) V (lv_sub hl [1, 2, 0] rfl)
    exact LP19 (zz_N z + 1) 0 _ _ _ _ (by omega) (Nat.zero_le _) (fun _ _ => rfl) (fun _ a9 h => absurd h (Nat.not_lt_zero _)) V (lv_sub hl [1, 0] rfl)
  · skip
    have hf1 : σ (20, 0) 6 = 1 := by omega
    refine nw_iconst X 1 d_Mod_fix_7 (by decide) ?_
    exact hret 1 _ _ _ _ _ d_Mod_fix_8 V (by decide) ⟨(cn_t (Or.inl hf1)).symm, ms_set hM mq_q.rf ⟨h29, h30, h31⟩ (fun hf s hs a ha => ((hfx hf).2.2 s hs a ha).trans ⟨fun h => Or.inl ⟨hf1, h⟩, fun h => h.elim (fun q => q.2) (fun q => absurd hf1 q.1)⟩), hf1, fun _ _ => rfl⟩
