/-! The reference: series. By program (wip/whole/gen/mod4.py). -/
set_option maxHeartbeats 4000000 in
set_option maxRecDepth 20000 in
theorem cm_Mod_series_false (l : Launch) (z : zz_Z) (σ : hw_M) (hz : ∀ k, zz_k (zz_n z) k → zz_O z k) (hD : md_ok z σ) (o : Nat → Nat → Nat) (hg : mg_ok z σ o) (k : Nat) (hk9 : k < 2147483648) : Met l y_Mod_series (hw_c y_Mod_series b_Mod_series 6 (some .int)) (hw_r 3) (va_Pc [.ref (zz_A z (20, 0)), .int (nI k), .int (nI 0)] (zz_B z σ)) (va_Qi (fun r σ' => mq_q σ σ' ∧ σ' (29, 0) = σ (29, 0) ∧ (∀ a, σ' (30, 0) a < 2) ∧ (∀ a, σ' (31, 0) a < 2) ∧ r = nI (gp_cd (zz_N z) (sp_ser (zz_N z) o false (min k 8)))) (zz_B z) (zz_F z)) 0 0 (zz_F z) := by
  refine hw_meti (post := (fun r σ' => mq_q σ σ' ∧ σ' (29, 0) = σ (29, 0) ∧ (∀ a, σ' (30, 0) a < 2) ∧ (∀ a, σ' (31, 0) a < 2) ∧ r = nI (gp_cd (zz_N z) (sp_ser (zz_N z) o false (min k 8))))) (by decide) (Nat.le_of_ble_eq_true rfl) ?_
  intro p e s m args below meth c ls Q X hret V hl
  have hl : lv_has ls 6 [(0, .ref (zz_A z (20, 0))), (1, .int (nI k)), (2, .int (nI 0))] := hl
  have hB := V.1.2.2
  obtain ⟨hn7, hN, hn, hNe, h29, h30, h31⟩ := id hD
  have g := hg.1
  have hsl : ∀ t x, sp_ser (zz_N z) o false t x → x < zz_N z := fun t => (sp_sb g false t).2.1
  refine nw_iconst X 0 d_Mod_series_0 (by decide) ?_
  refine nw_istore_n X (lv' := [(3, _), (0, _), (1, _), (2, _)]) d_Mod_series_1 rfl hl (by decide) rfl (fun ls hl => ?_)
  have LP2 : ∀ (d a : Nat) (σ1 : hw_M) (H : Heap) (locs : List Loc) (ls : Array Slot), zz_N z - a < d → (a ≤ zz_N z) → (∀ u : hw_P, u ≠ (30, 0) → σ1 u = σ u) → (∀ a, σ1 (30, 0) a < 2) → (∀ y, y < a → σ1 (30, 0) y = 1) → zz_V z σ1 s.heap H locs →  lv_has ls 6 [(0, .ref (zz_A z (20, 0))), (1, .int (nI k)), (2, .int (nI 0)), (3, .int (nI a))] →  W p l e (hw_r 3) s m args below meth c H locs 0 0 Q (F0 m 2 ls []) := by
    intro d
    induction d with
    | zero => intro a σ1 H locs ls hd; exact absurd hd (Nat.not_lt_zero _)
    | succ d IH2 =>
      intro a σ1 H locs ls hd haN hfr hb2 hv V hl
      have hB := V.1.2.2
      have hNe1 : σ1 (20, 0) 1 = zz_N z := by rw [hfr (20, 0) (hw_ne (by decide))]; exact hNe
      refine nw_iload_n X d_Mod_series_2 rfl (lv_at hl 3 rfl) ?_
      refine nw_aload_n X d_Mod_series_3 rfl (lv_at hl 0 rfl) ?_
      refine gf_Mod_48 X V (hz (20, 0) rfl) d_Mod_series_4 ?_
      rw [hNe1]
      refine nw_icmp_ge X (tgt := 23) d_Mod_series_7 (by decide) (by first | assumption | omega) (by first | assumption | omega) (fun ha => ?_) (fun ha => ?_)
      · skip
        refine nw_iconst X 0 d_Mod_series_23 (by decide) ?_
        refine nw_istore_n X (lv' := [(3, _), (0, _), (1, _), (2, _)]) d_Mod_series_24 rfl hl (by decide) rfl (fun ls hl => ?_)
        have LP25 : ∀ (d t : Nat) (σ5 : hw_M) (H : Heap) (locs : List Loc) (ls : Array Slot), 8 - t < d → (t ≤ 8) → (t ≤ k) → (mq_q σ σ5) → (∀ a, σ5 (29, 0) a < 2) → (∀ a, σ5 (30, 0) a < 2) → (∀ a, σ5 (31, 0) a < 2) → (∀ x, x < zz_N z → (σ5 (30, 0) x = 1 ↔ sp_ser (zz_N z) o false t x)) → (σ5 (29, 0) = σ (29, 0)) → zz_V z σ5 s.heap H locs →  lv_has ls 6 [(0, .ref (zz_A z (20, 0))), (1, .int (nI k)), (2, .int (nI 0)), (3, .int (nI t))] →  W p l e (hw_r 3) s m args below meth c H locs 0 0 Q (F0 m 25 ls []) := by
          intro d
          induction d with
          | zero => intro t σ5 H locs ls hd; exact absurd hd (Nat.not_lt_zero _)
          | succ d IH25 =>
            intro t σ5 H locs ls hd ht8 htk hq hb29 hb30 hb31 hT h9k V hl
            have hB := V.1.2.2
            have hNe5 : σ5 (20, 0) 1 = zz_N z := by rw [mq_at hq (by decide) 0]; exact hNe
            refine nw_iload_n X d_Mod_series_25 rfl (lv_at hl 3 rfl) ?_
            refine nw_iload_n X d_Mod_series_26 rfl (lv_at hl 1 rfl) ?_
            refine nw_icmp_ge X (tgt := 160) d_Mod_series_27 (by decide) (by omega) hk9 (fun hck => ?_) (fun hck => ?_)
            · skip
              refine nw_aload_n X d_Mod_series_160 rfl (lv_at hl 0 rfl) ?_
              refine hw_calli X V (hz (20, 0) rfl) rfl rfl (cm_Mod_worked l z σ5 hz ⟨hn7, hN, by rw [mq_at hq (by decide) 0]; exact hn, hNe5, hb29, hb30, hb31⟩) cs_Mod_94 (by decide) rfl hl.1 rfl (Nat.le_of_ble_eq_true rfl) (by decide) d_Mod_series_161 (fun r σ' H locs V hr => ?_)
              obtain ⟨hσ, rfl⟩ := hr
              rw [hσ] at V
              clear hσ
              have hB := V.1.2.2
              exact hret _ _ _ _ _ _ d_Mod_series_164 V ⟨hq, h9k, hb30, hb31, by rw [show min k 8 = t by omega]; exact congrArg nI (gp_cd_congr hT)⟩
            · skip
              refine nw_iload_n X d_Mod_series_30 rfl (lv_at hl 3 rfl) ?_
              refine nw_bipush X 8 d_Mod_series_31 (by decide) ?_
              refine nw_icmp_ge X (tgt := 160) d_Mod_series_33 (by decide) (by omega) (by decide) (fun hc8 => ?_) (fun hc8 => ?_)
              · skip
                refine nw_aload_n X d_Mod_series_160 rfl (lv_at hl 0 rfl) ?_
                refine hw_calli X V (hz (20, 0) rfl) rfl rfl (cm_Mod_worked l z σ5 hz ⟨hn7, hN, by rw [mq_at hq (by decide) 0]; exact hn, hNe5, hb29, hb30, hb31⟩) cs_Mod_94 (by decide) rfl hl.1 rfl (Nat.le_of_ble_eq_true rfl) (by decide) d_Mod_series_161 (fun r σ' H locs V hr => ?_)
                obtain ⟨hσ, rfl⟩ := hr
                rw [hσ] at V
                clear hσ
                have hB := V.1.2.2
                exact hret _ _ _ _ _ _ d_Mod_series_164 V ⟨hq, h9k, hb30, hb31, by rw [show min k 8 = t by omega]; exact congrArg nI (gp_cd_congr hT)⟩
              · skip
                refine nw_iconst X 0 d_Mod_series_36 (by decide) ?_
                refine nw_istore X (lv' := [(4, _), (0, _), (1, _), (2, _), (3, _)]) d_Mod_series_37 hl (by decide) rfl (fun ls hl => ?_)
                have LP39 : ∀ (d a : Nat) (σ4 : hw_M) (H : Heap) (locs : List Loc) (ls : Array Slot), zz_N z - a < d → (a ≤ zz_N z) → (∀ u : hw_P, u ≠ (30, 0) → u ≠ (31, 0) → σ4 u = σ5 u) → (∀ a, σ4 (30, 0) a < 2) → (∀ a, σ4 (31, 0) a < 2) → (∀ y, y < a → σ4 (31, 0) y = σ5 (30, 0) y ∧ σ4 (30, 0) y = 0) → (∀ y, a ≤ y → σ4 (30, 0) y = σ5 (30, 0) y) → zz_V z σ4 s.heap H locs →  lv_has ls 6 [(0, .ref (zz_A z (20, 0))), (1, .int (nI k)), (2, .int (nI 0)), (3, .int (nI t)), (4, .int (nI a))] →  W p l e (hw_r 3) s m args below meth c H locs 0 0 Q (F0 m 39 ls []) := by
                  intro d
                  induction d with
                  | zero => intro a σ4 H locs ls hd; exact absurd hd (Nat.not_lt_zero _)
                  | succ d IH39 =>
                    intro a σ4 H locs ls hd haN hfr hb4 hb5 hv hw9 V hl
                    have hB := V.1.2.2
                    have hNe1 : σ4 (20, 0) 1 = zz_N z := by rw [hfr (20, 0) (hw_ne (by decide)) (hw_ne (by decide))]; exact hNe5
                    refine nw_iload X d_Mod_series_39 (lv_at hl 4 rfl) ?_
                    refine nw_aload_n X d_Mod_series_41 rfl (lv_at hl 0 rfl) ?_
                    refine gf_Mod_48 X V (hz (20, 0) rfl) d_Mod_series_42 ?_
                    rw [hNe1]
                    refine nw_icmp_ge X (tgt := 76) d_Mod_series_45 (by decide) (by first | assumption | omega) (by first | assumption | omega) (fun ha => ?_) (fun ha => ?_)
                    · skip
                      have hz4 : ∀ x, x < zz_N z → σ4 (31, 0) x = σ5 (30, 0) x ∧ σ4 (30, 0) x = 0 := fun x hx => hv x (by omega)
                      have hq4 : mq_q σ σ4 := fun u a9 b9 c10 => (hfr u b9 c10).trans (hq u a9 b9 c10)
                      have h94 : σ4 (29, 0) = σ (29, 0) := (hfr (29, 0) (hw_ne (by decide)) (hw_ne (by decide))).trans h9k
                      have hD4 : md_ok z σ4 := ⟨hn7, hN, by rw [mq_at hq4 (by decide) 0]; exact hn, hNe1, by rw [h94]; exact h29, hb4, hb5⟩
                      have hg4 := mq_g hq4 hg
                      have hNe : σ4 (20, 0) 1 = zz_N z := hNe1
                      refine nw_iconst X 0 d_Mod_series_76 (by decide) ?_
                      refine nw_istore X (lv' := [(4, _), (0, _), (1, _), (2, _), (3, _)]) d_Mod_series_77 hl (by decide) rfl (fun ls hl => ?_)
                      have LP79 : ∀ (d a : Nat) (σ2 : hw_M) (H : Heap) (locs : List Loc) (ls : Array Slot), zz_N z - a < d → (a ≤ zz_N z) → (∀ u : hw_P, u ≠ (30, 0) → σ2 u = σ4 u) → (∀ a, σ2 (30, 0) a < 2) → (∀ x, x < zz_N z → σ2 (30, 0) x = 1 → (∃ a b, a < zz_N z ∧ b < zz_N z ∧ (σ4 (31, 0) a = 1 ∧ σ4 (31, 0) b = 1) ∧ x = gp_cm (zz_N z) o a b)) → (∀ a9, a9 < a → ∀ b, b < zz_N z → (σ4 (31, 0) a9 = 1 ∧ σ4 (31, 0) b = 1) → σ2 (30, 0) (gp_cm (zz_N z) o a9 b) = 1) → zz_V z σ2 s.heap H locs →  lv_has ls 6 [(0, .ref (zz_A z (20, 0))), (1, .int (nI k)), (2, .int (nI 0)), (3, .int (nI t)), (4, .int (nI a))] →  W p l e (hw_r 3) s m args below meth c H locs 0 0 Q (F0 m 79 ls []) := by
                        intro d
                        induction d with
                        | zero => intro a σ2 H locs ls hd; exact absurd hd (Nat.not_lt_zero _)
                        | succ d IH79 =>
                          intro a σ2 H locs ls hd haN hfr hb2 hY hdn V hl
                          have hB := V.1.2.2
                          have hNe1 : σ2 (20, 0) 1 = zz_N z := by rw [hfr (20, 0) (hw_ne (by decide))]; exact hNe
                          refine nw_iload X d_Mod_series_79 (lv_at hl 4 rfl) ?_
                          refine nw_aload_n X d_Mod_series_81 rfl (lv_at hl 0 rfl) ?_
                          refine gf_Mod_48 X V (hz (20, 0) rfl) d_Mod_series_82 ?_
                          rw [hNe1]
                          refine nw_icmp_ge X (tgt := 150) d_Mod_series_85 (by decide) (by first | assumption | omega) (by first | assumption | omega) (fun ha => ?_) (fun ha => ?_)
                          · skip
                            have hXq : ∀ x, (x < zz_N z ∧ σ2 (30, 0) x = 1) ↔ (∃ a b, a < zz_N z ∧ b < zz_N z ∧ (σ4 (31, 0) a = 1 ∧ σ4 (31, 0) b = 1) ∧ x = gp_cm (zz_N z) o a b) := fun x => ⟨fun q => hY x q.1 q.2, fun ⟨a9, b9, h1, h2, h3, h4⟩ => by rw [h4]; exact ⟨(g.cml h1 h2), hdn a9 (by omega) b9 h2 h3⟩⟩
                            refine nw_aload_n X d_Mod_series_150 rfl (lv_at hl 0 rfl) ?_
                            refine hw_callv X V (hz (20, 0) rfl) rfl rfl (cm_Mod_close l z σ2 hz (md_mv hD4 hfr hb2) o (mq_g (mq_30 hfr) hg4)) cs_Mod_98 (by decide) rfl hl.1 rfl (Nat.le_of_ble_eq_true rfl) (by decide) d_Mod_series_151 (fun σ9 H locs V hr => ?_)
                            obtain ⟨f9, b9, c9⟩ := hr
                            have hB := V.1.2.2
                            have hqn : mq_q σ σ9 := fun u a9 b10 c10 => (f9 u b10).trans ((hfr u b10).trans (hq4 u a9 b10 c10))
                            have h9n : σ9 (29, 0) = σ (29, 0) := (f9 (29, 0) (hw_ne (by decide))).trans ((hfr (29, 0) (hw_ne (by decide))).trans h94)
                            have hb29n : ∀ a, σ9 (29, 0) a < 2 := by rw [h9n]; exact h29
                            have hb31n : ∀ a, σ9 (31, 0) a < 2 := by rw [f9 (31, 0) (hw_ne (by decide)), hfr (31, 0) (hw_ne (by decide))]; exact hb5
                            have h41 : ∀ x, x < zz_N z → (σ4 (31, 0) x = 1 ↔ sp_ser (zz_N z) o false t x) := fun x hx => by rw [(hz4 x hx).1]; exact hT x hx
                            have hTn : ∀ x, x < zz_N z → (σ9 (30, 0) x = 1 ↔ sp_ser (zz_N z) o false (t + 1) x) := fun x hx => (c9 x hx).trans ((gp_gn_ext hXq x).trans (gp_gn_ext (fun c10 => ⟨fun ⟨a9, b10, h1, h2, h3, h4⟩ => ⟨a9, b10, (h41 a9 h1).mp h3.1, (h41 b10 h2).mp h3.2, h4⟩, fun ⟨a9, b10, h1, h2, h3⟩ => ⟨a9, b10, hsl t a9 h1, hsl t b10 h2, ⟨(h41 a9 (hsl t a9 h1)).mpr h1, (h41 b10 (hsl t b10 h2)).mpr h2⟩, h3⟩⟩) x))
                            refine nw_iinc X (lv' := [(3, _), (0, _), (1, _), (2, _), (4, _)]) (k := 3) 1 d_Mod_series_154 hl rfl (by decide) (by decide) rfl (fun ls hl => ?_)
                            refine nw_goto X (tgt := 25) d_Mod_series_157 (by decide) ?_
                            exact IH25 (t + 1) _ _ _ _ (by omega) hc8 hck hqn hb29n b9 hb31n hTn h9n V (lv_sub hl [1, 2, 3, 0] rfl)
                          · skip
                            refine nw_iconst X 0 d_Mod_series_88 (by decide) ?_
                            refine nw_istore X (lv' := [(5, _), (0, _), (1, _), (2, _), (3, _), (4, _)]) d_Mod_series_89 hl (by decide) rfl (fun ls hl => ?_)
                            have LP91 : ∀ (d b : Nat) (σ3 : hw_M) (H : Heap) (locs : List Loc) (ls : Array Slot), zz_N z - b < d → (b ≤ zz_N z) → (∀ u : hw_P, u ≠ (30, 0) → σ3 u = σ4 u) → (∀ a, σ3 (30, 0) a < 2) → (∀ x, x < zz_N z → σ3 (30, 0) x = 1 → (∃ a b, a < zz_N z ∧ b < zz_N z ∧ (σ4 (31, 0) a = 1 ∧ σ4 (31, 0) b = 1) ∧ x = gp_cm (zz_N z) o a b)) → (∀ a9, a9 < a → ∀ b, b < zz_N z → (σ4 (31, 0) a9 = 1 ∧ σ4 (31, 0) b = 1) → σ3 (30, 0) (gp_cm (zz_N z) o a9 b) = 1) → (∀ b9, b9 < b → (σ4 (31, 0) a = 1 ∧ σ4 (31, 0) b9 = 1) → σ3 (30, 0) (gp_cm (zz_N z) o a b9) = 1) → zz_V z σ3 s.heap H locs →  lv_has ls 6 [(0, .ref (zz_A z (20, 0))), (1, .int (nI k)), (2, .int (nI 0)), (3, .int (nI t)), (4, .int (nI a)), (5, .int (nI b))] →  W p l e (hw_r 3) s m args below meth c H locs 0 0 Q (F0 m 91 ls []) := by
                              intro d
                              induction d with
                              | zero => intro b σ3 H locs ls hd; exact absurd hd (Nat.not_lt_zero _)
                              | succ d IH91 =>
                                intro b σ3 H locs ls hd hbN hfr hb2 hY hdn hrow V hl
                                have hB := V.1.2.2
                                have hNe1 : σ3 (20, 0) 1 = zz_N z := by rw [hfr (20, 0) (hw_ne (by decide))]; exact hNe
                                refine nw_iload X d_Mod_series_91 (lv_at hl 5 rfl) ?_
                                refine nw_aload_n X d_Mod_series_93 rfl (lv_at hl 0 rfl) ?_
                                refine gf_Mod_48 X V (hz (20, 0) rfl) d_Mod_series_94 ?_
                                rw [hNe1]
                                refine nw_icmp_ge X (tgt := 144) d_Mod_series_97 (by decide) (by first | assumption | omega) (by first | assumption | omega) (fun hb => ?_) (fun hb => ?_)
                                · skip
                                  have hrow9 : ∀ b9, b9 < zz_N z → (σ4 (31, 0) a = 1 ∧ σ4 (31, 0) b9 = 1) → σ3 (30, 0) (gp_cm (zz_N z) o a b9) = 1 := fun b9 h1 h2 => hrow b9 (by omega) h2
                                  refine nw_iinc X (lv' := [(4, _), (0, _), (1, _), (2, _), (3, _), (5, _)]) (k := 4) 1 d_Mod_series_144 hl rfl (by decide) (by decide) rfl (fun ls hl => ?_)
                                  refine nw_goto X (tgt := 79) d_Mod_series_147 (by decide) ?_
                                  exact IH79 (a + 1) _ _ _ _ (by omega) ha hfr hb2 hY (fun a9 h1 b h2 h3 => by by_cases e : a9 = a; rw [e] at h3 ⊢; exact hrow9 b h2 h3; exact hdn a9 (by omega) b h2 h3) V (lv_sub hl [1, 2, 3, 4, 0] rfl)
                                · skip
                                  refine nw_aload_n X d_Mod_series_100 rfl (lv_at hl 0 rfl) ?_
                                  refine gf_Mod_41 X V (hz (20, 0) rfl) d_Mod_series_101 ?_
                                  refine nw_iload X d_Mod_series_104 (lv_at hl 4 rfl) ?_
                                  refine hw_zald X V (hz (31, 0) rfl) 1 rfl rfl (by omega) (by decide) d_Mod_series_106 ?_
                                  rw [hfr (31, 0) (hw_ne (by decide))]
                                  refine nw_if_eq X (tgt := 144) d_Mod_series_107 (by decide) (by rw [← hfr (31, 0) (hw_ne (by decide))]; exact hB _ _) (fun hcq => ?_) (fun hcq => ?_)
                                  · skip
                                    have hrow9 : ∀ b9, b9 < zz_N z → (σ4 (31, 0) a = 1 ∧ σ4 (31, 0) b9 = 1) → σ3 (30, 0) (gp_cm (zz_N z) o a b9) = 1 := fun b9 h1 h2 => by have := h2.1; omega
                                    refine nw_iinc X (lv' := [(4, _), (0, _), (1, _), (2, _), (3, _), (5, _)]) (k := 4) 1 d_Mod_series_144 hl rfl (by decide) (by decide) rfl (fun ls hl => ?_)
                                    refine nw_goto X (tgt := 79) d_Mod_series_147 (by decide) ?_
                                    exact IH79 (a + 1) _ _ _ _ (by omega) ha hfr hb2 hY (fun a9 h1 b h2 h3 => by by_cases e : a9 = a; rw [e] at h3 ⊢; exact hrow9 b h2 h3; exact hdn a9 (by omega) b h2 h3) V (lv_sub hl [1, 2, 3, 4, 0] rfl)
                                  · skip
                                    have hca : σ4 (31, 0) a = 1 := by have := hb5 a; omega
                                    refine nw_iload_n X d_Mod_series_110 rfl (lv_at hl 2 rfl) ?_
                                    refine nw_if_ne X (tgt := 124) d_Mod_series_111 (by decide) (by decide) (fun hq1 => ?_) (fun hq1 => ?_)
                                    · skip
                                      exact absurd rfl hq1
                                    · skip
                                      refine nw_aload_n X d_Mod_series_114 rfl (lv_at hl 0 rfl) ?_
                                      refine gf_Mod_41 X V (hz (20, 0) rfl) d_Mod_series_115 ?_
                                      refine nw_iload X d_Mod_series_118 (lv_at hl 5 rfl) ?_
                                      refine hw_zald X V (hz (31, 0) rfl) 1 rfl rfl (by omega) (by decide) d_Mod_series_120 ?_
                                      rw [hfr (31, 0) (hw_ne (by decide))]
                                      refine nw_if_eq X (tgt := 138) d_Mod_series_121 (by decide) (by rw [← hfr (31, 0) (hw_ne (by decide))]; exact hB _ _) (fun hcr => ?_) (fun hcr => ?_)
                                      · skip
                                        have hcf : ¬ (σ4 (31, 0) a = 1 ∧ σ4 (31, 0) b = 1) := fun h => by have := h.2; omega
                                        have hfr3 := hfr
                                        have hb3 := hb2
                                        have hY3 := hY
                                        have hdn3 := hdn
                                        have hrow3 : ∀ b9, b9 < b + 1 → (σ4 (31, 0) a = 1 ∧ σ4 (31, 0) b9 = 1) → σ3 (30, 0) (gp_cm (zz_N z) o a b9) = 1 := fun b9 h1 h2 => by by_cases e : b9 = b; rw [e] at h2; exact absurd h2 hcf; exact hrow b9 (by omega) h2
                                        refine nw_iinc X (lv' := [(5, _), (0, _), (1, _), (2, _), (3, _), (4, _)]) (k := 5) 1 d_Mod_series_138 hl rfl (by decide) (by decide) rfl (fun ls hl => ?_)
                                        refine nw_goto X (tgt := 91) d_Mod_series_141 (by decide) ?_
                                        exact IH91 (b + 1) _ _ _ _ (by omega) hb hfr3 hb3 hY3 hdn3 hrow3 V (lv_sub hl [1, 2, 3, 4, 5, 0] rfl)
                                      · skip
                                        have hcc : σ4 (31, 0) a = 1 ∧ σ4 (31, 0) b = 1 := ⟨hca, by have := hb5 b; omega⟩
                                        have hfl := g.cml ha hb
                                        refine nw_aload_n X d_Mod_series_124 rfl (lv_at hl 0 rfl) ?_
                                        refine gf_Mod_38 X V (hz (20, 0) rfl) d_Mod_series_125 ?_
                                        refine nw_aload_n X d_Mod_series_128 rfl (lv_at hl 0 rfl) ?_
                                        refine nw_iload X d_Mod_series_129 (lv_at hl 4 rfl) ?_
                                        refine nw_iload X d_Mod_series_131 (lv_at hl 5 rfl) ?_
                                        refine hw_calli X V (hz (20, 0) rfl) rfl rfl (cm_Mod_bracket l z σ3 hz (md_mv hD4 hfr hb2) _ (mq_g (mq_30 hfr) hg4) a b ha hb) cs_Mod_91 (by decide) rfl hl.1 rfl (Nat.le_of_ble_eq_true rfl) (by decide) d_Mod_series_133 (fun r σ' H locs V hr => ?_)
                                        obtain ⟨hσ, rfl⟩ := hr
                                        rw [hσ] at V
                                        clear hσ
                                        have hB := V.1.2.2
                                        refine nw_iconst X 1 d_Mod_series_136 (by decide) ?_
                                        refine hw_zast X V (hz (30, 0) rfl) 1 (fun _ => rfl) rfl (by omega) (by decide) (by decide) d_Mod_series_137 (fun H locs V => ?_)
                                        have hB := V.1.2.2
                                        have hfr3 : ∀ u : hw_P, u ≠ (30, 0) → hw_up σ3 (30, 0) (gp_cm (zz_N z) o a b) 1 u = σ4 u := fun u hu => (hw_up_k _ _ _ hu).trans (hfr u hu)
                                        have hb3 : ∀ a9, hw_up σ3 (30, 0) (gp_cm (zz_N z) o a b) 1 (30, 0) a9 < 2 := md_up2 hb2 (by decide)
                                        have hY3 : ∀ x, x < zz_N z → hw_up σ3 (30, 0) (gp_cm (zz_N z) o a b) 1 (30, 0) x = 1 → (∃ a b, a < zz_N z ∧ b < zz_N z ∧ (σ4 (31, 0) a = 1 ∧ σ4 (31, 0) b = 1) ∧ x = gp_cm (zz_N z) o a b) := fun x hx h1 => by rw [hw_up_v] at h1; by_cases e : x = gp_cm (zz_N z) o a b; exact ⟨a, b, ha, hb, hcc, e⟩; rw [if_neg e] at h1; exact hY x hx h1
                                        have hdn3 : ∀ a9, a9 < a → ∀ b9, b9 < zz_N z → (σ4 (31, 0) a9 = 1 ∧ σ4 (31, 0) b9 = 1) → hw_up σ3 (30, 0) (gp_cm (zz_N z) o a b) 1 (30, 0) (gp_cm (zz_N z) o a9 b9) = 1 := fun a9 h1 b9 h2 h3 => md_set1 (hdn a9 h1 b9 h2 h3)
                                        have hrow3 : ∀ b9, b9 < b + 1 → (σ4 (31, 0) a = 1 ∧ σ4 (31, 0) b9 = 1) → hw_up σ3 (30, 0) (gp_cm (zz_N z) o a b) 1 (30, 0) (gp_cm (zz_N z) o a b9) = 1 := fun b9 h1 h2 => by by_cases e : b9 = b; rw [e]; exact hw_up_s _ _ _ _; exact md_set1 (hrow b9 (by omega) h2)
                                        refine nw_iinc X (lv' := [(5, _), (0, _), (1, _), (2, _), (3, _), (4, _)]) (k := 5) 1 d_Mod_series_138 hl rfl (by decide) (by decide) rfl (fun ls hl => ?_)
                                        refine nw_goto X (tgt := 91) d_Mod_series_141 (by decide) ?_
                                        exact IH91 (b + 1) _ _ _ _ (by omega) hb hfr3 hb3 hY3 hdn3 hrow3 V (lv_sub hl [1, 2, 3, 4, 5, 0] rfl)
                            exact LP91 (zz_N z + 1) 0 _ _ _ _ (by omega) (Nat.zero_le _) hfr hb2 hY hdn (fun b9 h => absurd h (Nat.not_lt_zero _)) V (lv_sub hl [1, 2, 3, 4, 5, 0] rfl)
                      have hb2 := hb4
                      have hzr : ∀ y, y < zz_N z → σ4 (30, 0) y = 0 := fun y hy => (hz4 y hy).2
                      exact LP79 (zz_N z + 1) 0 _ _ _ _ (by omega) (Nat.zero_le _) (fun _ _ => rfl) hb2 (fun x hx h1 => by rw [hzr x (by omega)] at h1; cases h1) (fun a9 h => absurd h (Nat.not_lt_zero _)) V (lv_sub hl [1, 2, 3, 4, 0] rfl)
                    · skip
                      refine nw_aload_n X d_Mod_series_48 rfl (lv_at hl 0 rfl) ?_
                      refine gf_Mod_41 X V (hz (20, 0) rfl) d_Mod_series_49 ?_
                      refine nw_iload X d_Mod_series_52 (lv_at hl 4 rfl) ?_
                      refine nw_aload_n X d_Mod_series_54 rfl (lv_at hl 0 rfl) ?_
                      refine gf_Mod_38 X V (hz (20, 0) rfl) d_Mod_series_55 ?_
                      refine nw_iload X d_Mod_series_58 (lv_at hl 4 rfl) ?_
                      refine hw_zald X V (hz (30, 0) rfl) 1 rfl rfl (by omega) (by decide) d_Mod_series_60 ?_
                      refine hw_zast X V (hz (31, 0) rfl) 1 (fun _ => rfl) rfl (by omega) (by decide) (by rw [hw9 a (Nat.le_refl _)]; exact hb30 a) d_Mod_series_61 (fun H locs V => ?_)
                      refine nw_aload_n X d_Mod_series_62 rfl (lv_at hl 0 rfl) ?_
                      refine gf_Mod_38 X V (hz (20, 0) rfl) d_Mod_series_63 ?_
                      refine nw_iload X d_Mod_series_66 (lv_at hl 4 rfl) ?_
                      refine nw_iconst X 0 d_Mod_series_68 (by decide) ?_
                      refine hw_zast X V (hz (30, 0) rfl) 1 (fun _ => rfl) rfl (by omega) (by decide) (by decide) d_Mod_series_69 (fun H locs V => ?_)
                      refine nw_iinc X (lv' := [(4, _), (0, _), (1, _), (2, _), (3, _)]) (k := 4) 1 d_Mod_series_70 hl rfl (by decide) (by decide) rfl (fun ls hl => ?_)
                      refine nw_goto X (tgt := 39) d_Mod_series_73 (by decide) ?_
                      exact IH39 (a + 1) _ _ _ _ (by omega) ha (fun u h1 h2 => (hw_up_k _ _ _ h1).trans ((hw_up_k _ _ _ h2).trans (hfr u h1 h2))) (by rw [sr_a]; exact md_up2 hb4 (by decide)) (by rw [hw_up_k _ _ _ (hw_ne (by decide))]; exact md_up2 hb5 (by rw [hw9 a (Nat.le_refl _)]; exact hb30 a)) (fun y hy => by
                        rw [hw_up_k _ _ _ (show ((31, 0) : hw_P) ≠ (30, 0) from hw_ne (by decide)), hw_up_v, hw_up_v, hw_up_k _ _ _ (show ((30, 0) : hw_P) ≠ (31, 0) from hw_ne (by decide))]
                        by_cases e : y = a
                        · rw [if_pos e, if_pos e, e, hw9 a (Nat.le_refl _)]; exact ⟨rfl, rfl⟩
                        · rw [if_neg e, if_neg e]; exact hv y (by omega)) (fun y hy => by rw [hw_up_i _ _ _ (by omega), hw_up_k _ _ _ (show ((30, 0) : hw_P) ≠ (31, 0) from hw_ne (by decide))]; exact hw9 y (by omega)) V (lv_sub hl [1, 2, 3, 4, 0] rfl)
                exact LP39 (zz_N z + 1) 0 _ _ _ _ (by omega) (Nat.zero_le _) (fun _ _ _ => rfl) hb30 hb31 (fun y hy => absurd hy (Nat.not_lt_zero _)) (fun y _ => rfl) V (lv_sub hl [1, 2, 3, 4, 0] rfl)
        exact LP25 (8 + 1) 0 _ _ _ _ (by omega) (Nat.zero_le _) (Nat.zero_le _) (mq_30 hfr) (by rw [hfr (29, 0) (hw_ne (by decide))]; exact h29) hb2 (by rw [hfr (31, 0) (hw_ne (by decide))]; exact h31) (fun x hx => ⟨fun _ => hx, fun _ => hv x (by omega)⟩) (hfr (29, 0) (hw_ne (by decide))) V (lv_sub hl [1, 2, 3, 0] rfl)
      · skip
        refine nw_aload_n X d_Mod_series_10 rfl (lv_at hl 0 rfl) ?_
        refine gf_Mod_38 X V (hz (20, 0) rfl) d_Mod_series_11 ?_
        refine nw_iload_n X d_Mod_series_14 rfl (lv_at hl 3 rfl) ?_
        refine nw_iconst X 1 d_Mod_series_15 (by decide) ?_
        refine hw_zast X V (hz (30, 0) rfl) 1 (fun _ => rfl) rfl (by omega) (by decide) (by decide) d_Mod_series_16 (fun H locs V => ?_)
        refine nw_iinc X (lv' := [(3, _), (0, _), (1, _), (2, _)]) (k := 3) 1 d_Mod_series_17 hl rfl (by decide) (by decide) rfl (fun ls hl => ?_)
        refine nw_goto X (tgt := 2) d_Mod_series_20 (by decide) ?_
        exact IH2 (a + 1) _ _ _ _ (by omega) ha (fun u hu => (hw_up_k _ _ _ hu).trans (hfr u hu)) (md_up2 hb2 (by decide)) (fm_put hv rfl) V (lv_sub hl [1, 2, 3, 0] rfl)
  exact LP2 (zz_N z + 1) 0 _ _ _ _ (by omega) (Nat.zero_le _) (fun _ _ => rfl) h30 (fun y hy => absurd hy (Nat.not_lt_zero _)) V (lv_sub hl [1, 2, 3, 0] rfl)
set_option maxHeartbeats 4000000 in
set_option maxRecDepth 20000 in
theorem cm_Mod_series_true (l : Launch) (z : zz_Z) (σ : hw_M) (hz : ∀ k, zz_k (zz_n z) k → zz_O z k) (hD : md_ok z σ) (o : Nat → Nat → Nat) (hg : mg_ok z σ o) (k : Nat) (hk9 : k < 2147483648) : Met l y_Mod_series (hw_c y_Mod_series b_Mod_series 6 (some .int)) (hw_r 3) (va_Pc [.ref (zz_A z (20, 0)), .int (nI k), .int (nI 1)] (zz_B z σ)) (va_Qi (fun r σ' => mq_q σ σ' ∧ σ' (29, 0) = σ (29, 0) ∧ (∀ a, σ' (30, 0) a < 2) ∧ (∀ a, σ' (31, 0) a < 2) ∧ r = nI (gp_cd (zz_N z) (sp_ser (zz_N z) o true (min k 8)))) (zz_B z) (zz_F z)) 0 0 (zz_F z) := by
  refine hw_meti (post := (fun r σ' => mq_q σ σ' ∧ σ' (29, 0) = σ (29, 0) ∧ (∀ a, σ' (30, 0) a < 2) ∧ (∀ a, σ' (31, 0) a < 2) ∧ r = nI (gp_cd (zz_N z) (sp_ser (zz_N z) o true (min k 8))))) (by decide) (Nat.le_of_ble_eq_true rfl) ?_
  intro p e s m args below meth c ls Q X hret V hl
  have hl : lv_has ls 6 [(0, .ref (zz_A z (20, 0))), (1, .int (nI k)), (2, .int (nI 1))] := hl
  have hB := V.1.2.2
  obtain ⟨hn7, hN, hn, hNe, h29, h30, h31⟩ := id hD
  have g := hg.1
  have hsl : ∀ t x, sp_ser (zz_N z) o true t x → x < zz_N z := fun t => (sp_sb g true t).2.1
  refine nw_iconst X 0 d_Mod_series_0 (by decide) ?_
  refine nw_istore_n X (lv' := [(3, _), (0, _), (1, _), (2, _)]) d_Mod_series_1 rfl hl (by decide) rfl (fun ls hl => ?_)
  have LP2 : ∀ (d a : Nat) (σ1 : hw_M) (H : Heap) (locs : List Loc) (ls : Array Slot), zz_N z - a < d → (a ≤ zz_N z) → (∀ u : hw_P, u ≠ (30, 0) → σ1 u = σ u) → (∀ a, σ1 (30, 0) a < 2) → (∀ y, y < a → σ1 (30, 0) y = 1) → zz_V z σ1 s.heap H locs →  lv_has ls 6 [(0, .ref (zz_A z (20, 0))), (1, .int (nI k)), (2, .int (nI 1)), (3, .int (nI a))] →  W p l e (hw_r 3) s m args below meth c H locs 0 0 Q (F0 m 2 ls []) := by
    intro d
    induction d with
    | zero => intro a σ1 H locs ls hd; exact absurd hd (Nat.not_lt_zero _)
    | succ d IH2 =>
      intro a σ1 H locs ls hd haN hfr hb2 hv V hl
      have hB := V.1.2.2
      have hNe1 : σ1 (20, 0) 1 = zz_N z := by rw [hfr (20, 0) (hw_ne (by decide))]; exact hNe
      refine nw_iload_n X d_Mod_series_2 rfl (lv_at hl 3 rfl) ?_
      refine nw_aload_n X d_Mod_series_3 rfl (lv_at hl 0 rfl) ?_
      refine gf_Mod_48 X V (hz (20, 0) rfl) d_Mod_series_4 ?_
      rw [hNe1]
      refine nw_icmp_ge X (tgt := 23) d_Mod_series_7 (by decide) (by first | assumption | omega) (by first | assumption | omega) (fun ha => ?_) (fun ha => ?_)
      · skip
        refine nw_iconst X 0 d_Mod_series_23 (by decide) ?_
        refine nw_istore_n X (lv' := [(3, _), (0, _), (1, _), (2, _)]) d_Mod_series_24 rfl hl (by decide) rfl (fun ls hl => ?_)
        have LP25 : ∀ (d t : Nat) (σ5 : hw_M) (H : Heap) (locs : List Loc) (ls : Array Slot), 8 - t < d → (t ≤ 8) → (t ≤ k) → (mq_q σ σ5) → (∀ a, σ5 (29, 0) a < 2) → (∀ a, σ5 (30, 0) a < 2) → (∀ a, σ5 (31, 0) a < 2) → (∀ x, x < zz_N z → (σ5 (30, 0) x = 1 ↔ sp_ser (zz_N z) o true t x)) → (σ5 (29, 0) = σ (29, 0)) → zz_V z σ5 s.heap H locs →  lv_has ls 6 [(0, .ref (zz_A z (20, 0))), (1, .int (nI k)), (2, .int (nI 1)), (3, .int (nI t))] →  W p l e (hw_r 3) s m args below meth c H locs 0 0 Q (F0 m 25 ls []) := by
          intro d
          induction d with
          | zero => intro t σ5 H locs ls hd; exact absurd hd (Nat.not_lt_zero _)
          | succ d IH25 =>
            intro t σ5 H locs ls hd ht8 htk hq hb29 hb30 hb31 hT h9k V hl
            have hB := V.1.2.2
            have hNe5 : σ5 (20, 0) 1 = zz_N z := by rw [mq_at hq (by decide) 0]; exact hNe
            refine nw_iload_n X d_Mod_series_25 rfl (lv_at hl 3 rfl) ?_
            refine nw_iload_n X d_Mod_series_26 rfl (lv_at hl 1 rfl) ?_
            refine nw_icmp_ge X (tgt := 160) d_Mod_series_27 (by decide) (by omega) hk9 (fun hck => ?_) (fun hck => ?_)
            · skip
              refine nw_aload_n X d_Mod_series_160 rfl (lv_at hl 0 rfl) ?_
              refine hw_calli X V (hz (20, 0) rfl) rfl rfl (cm_Mod_worked l z σ5 hz ⟨hn7, hN, by rw [mq_at hq (by decide) 0]; exact hn, hNe5, hb29, hb30, hb31⟩) cs_Mod_94 (by decide) rfl hl.1 rfl (Nat.le_of_ble_eq_true rfl) (by decide) d_Mod_series_161 (fun r σ' H locs V hr => ?_)
              obtain ⟨hσ, rfl⟩ := hr
              rw [hσ] at V
              clear hσ
              have hB := V.1.2.2
              exact hret _ _ _ _ _ _ d_Mod_series_164 V ⟨hq, h9k, hb30, hb31, by rw [show min k 8 = t by omega]; exact congrArg nI (gp_cd_congr hT)⟩
            · skip
              refine nw_iload_n X d_Mod_series_30 rfl (lv_at hl 3 rfl) ?_
              refine nw_bipush X 8 d_Mod_series_31 (by decide) ?_
              refine nw_icmp_ge X (tgt := 160) d_Mod_series_33 (by decide) (by omega) (by decide) (fun hc8 => ?_) (fun hc8 => ?_)
              · skip
                refine nw_aload_n X d_Mod_series_160 rfl (lv_at hl 0 rfl) ?_
                refine hw_calli X V (hz (20, 0) rfl) rfl rfl (cm_Mod_worked l z σ5 hz ⟨hn7, hN, by rw [mq_at hq (by decide) 0]; exact hn, hNe5, hb29, hb30, hb31⟩) cs_Mod_94 (by decide) rfl hl.1 rfl (Nat.le_of_ble_eq_true rfl) (by decide) d_Mod_series_161 (fun r σ' H locs V hr => ?_)
                obtain ⟨hσ, rfl⟩ := hr
                rw [hσ] at V
                clear hσ
                have hB := V.1.2.2
                exact hret _ _ _ _ _ _ d_Mod_series_164 V ⟨hq, h9k, hb30, hb31, by rw [show min k 8 = t by omega]; exact congrArg nI (gp_cd_congr hT)⟩
              · skip
                refine nw_iconst X 0 d_Mod_series_36 (by decide) ?_
                refine nw_istore X (lv' := [(4, _), (0, _), (1, _), (2, _), (3, _)]) d_Mod_series_37 hl (by decide) rfl (fun ls hl => ?_)
                have LP39 : ∀ (d a : Nat) (σ4 : hw_M) (H : Heap) (locs : List Loc) (ls : Array Slot), zz_N z - a < d → (a ≤ zz_N z) → (∀ u : hw_P, u ≠ (30, 0) → u ≠ (31, 0) → σ4 u = σ5 u) → (∀ a, σ4 (30, 0) a < 2) → (∀ a, σ4 (31, 0) a < 2) → (∀ y, y < a → σ4 (31, 0) y = σ5 (30, 0) y ∧ σ4 (30, 0) y = 0) → (∀ y, a ≤ y → σ4 (30, 0) y = σ5 (30, 0) y) → zz_V z σ4 s.heap H locs →  lv_has ls 6 [(0, .ref (zz_A z (20, 0))), (1, .int (nI k)), (2, .int (nI 1)), (3, .int (nI t)), (4, .int (nI a))] →  W p l e (hw_r 3) s m args below meth c H locs 0 0 Q (F0 m 39 ls []) := by
                  intro d
                  induction d with
                  | zero => intro a σ4 H locs ls hd; exact absurd hd (Nat.not_lt_zero _)
                  | succ d IH39 =>
                    intro a σ4 H locs ls hd haN hfr hb4 hb5 hv hw9 V hl
                    have hB := V.1.2.2
                    have hNe1 : σ4 (20, 0) 1 = zz_N z := by rw [hfr (20, 0) (hw_ne (by decide)) (hw_ne (by decide))]; exact hNe5
                    refine nw_iload X d_Mod_series_39 (lv_at hl 4 rfl) ?_
                    refine nw_aload_n X d_Mod_series_41 rfl (lv_at hl 0 rfl) ?_
                    refine gf_Mod_48 X V (hz (20, 0) rfl) d_Mod_series_42 ?_
                    rw [hNe1]
                    refine nw_icmp_ge X (tgt := 76) d_Mod_series_45 (by decide) (by first | assumption | omega) (by first | assumption | omega) (fun ha => ?_) (fun ha => ?_)
                    · skip
                      have hz4 : ∀ x, x < zz_N z → σ4 (31, 0) x = σ5 (30, 0) x ∧ σ4 (30, 0) x = 0 := fun x hx => hv x (by omega)
                      have hq4 : mq_q σ σ4 := fun u a9 b9 c10 => (hfr u b9 c10).trans (hq u a9 b9 c10)
                      have h94 : σ4 (29, 0) = σ (29, 0) := (hfr (29, 0) (hw_ne (by decide)) (hw_ne (by decide))).trans h9k
                      have hD4 : md_ok z σ4 := ⟨hn7, hN, by rw [mq_at hq4 (by decide) 0]; exact hn, hNe1, by rw [h94]; exact h29, hb4, hb5⟩
                      have hg4 := mq_g hq4 hg
                      have hNe : σ4 (20, 0) 1 = zz_N z := hNe1
                      refine nw_iconst X 0 d_Mod_series_76 (by decide) ?_
                      refine nw_istore X (lv' := [(4, _), (0, _), (1, _), (2, _), (3, _)]) d_Mod_series_77 hl (by decide) rfl (fun ls hl => ?_)
                      have LP79 : ∀ (d a : Nat) (σ2 : hw_M) (H : Heap) (locs : List Loc) (ls : Array Slot), zz_N z - a < d → (a ≤ zz_N z) → (∀ u : hw_P, u ≠ (30, 0) → σ2 u = σ4 u) → (∀ a, σ2 (30, 0) a < 2) → (∀ x, x < zz_N z → σ2 (30, 0) x = 1 → (∃ a b, a < zz_N z ∧ b < zz_N z ∧ (σ4 (31, 0) a = 1) ∧ x = gp_cm (zz_N z) o a b)) → (∀ a9, a9 < a → ∀ b, b < zz_N z → (σ4 (31, 0) a9 = 1) → σ2 (30, 0) (gp_cm (zz_N z) o a9 b) = 1) → zz_V z σ2 s.heap H locs →  lv_has ls 6 [(0, .ref (zz_A z (20, 0))), (1, .int (nI k)), (2, .int (nI 1)), (3, .int (nI t)), (4, .int (nI a))] →  W p l e (hw_r 3) s m args below meth c H locs 0 0 Q (F0 m 79 ls []) := by
                        intro d
                        induction d with
                        | zero => intro a σ2 H locs ls hd; exact absurd hd (Nat.not_lt_zero _)
                        | succ d IH79 =>
                          intro a σ2 H locs ls hd haN hfr hb2 hY hdn V hl
                          have hB := V.1.2.2
                          have hNe1 : σ2 (20, 0) 1 = zz_N z := by rw [hfr (20, 0) (hw_ne (by decide))]; exact hNe
                          refine nw_iload X d_Mod_series_79 (lv_at hl 4 rfl) ?_
                          refine nw_aload_n X d_Mod_series_81 rfl (lv_at hl 0 rfl) ?_
                          refine gf_Mod_48 X V (hz (20, 0) rfl) d_Mod_series_82 ?_
                          rw [hNe1]
                          refine nw_icmp_ge X (tgt := 150) d_Mod_series_85 (by decide) (by first | assumption | omega) (by first | assumption | omega) (fun ha => ?_) (fun ha => ?_)
                          · skip
                            have hXq : ∀ x, (x < zz_N z ∧ σ2 (30, 0) x = 1) ↔ (∃ a b, a < zz_N z ∧ b < zz_N z ∧ (σ4 (31, 0) a = 1) ∧ x = gp_cm (zz_N z) o a b) := fun x => ⟨fun q => hY x q.1 q.2, fun ⟨a9, b9, h1, h2, h3, h4⟩ => by rw [h4]; exact ⟨(g.cml h1 h2), hdn a9 (by omega) b9 h2 h3⟩⟩
                            refine nw_aload_n X d_Mod_series_150 rfl (lv_at hl 0 rfl) ?_
                            refine hw_callv X V (hz (20, 0) rfl) rfl rfl (cm_Mod_close l z σ2 hz (md_mv hD4 hfr hb2) o (mq_g (mq_30 hfr) hg4)) cs_Mod_98 (by decide) rfl hl.1 rfl (Nat.le_of_ble_eq_true rfl) (by decide) d_Mod_series_151 (fun σ9 H locs V hr => ?_)
                            obtain ⟨f9, b9, c9⟩ := hr
                            have hB := V.1.2.2
                            have hqn : mq_q σ σ9 := fun u a9 b10 c10 => (f9 u b10).trans ((hfr u b10).trans (hq4 u a9 b10 c10))
                            have h9n : σ9 (29, 0) = σ (29, 0) := (f9 (29, 0) (hw_ne (by decide))).trans ((hfr (29, 0) (hw_ne (by decide))).trans h94)
                            have hb29n : ∀ a, σ9 (29, 0) a < 2 := by rw [h9n]; exact h29
                            have hb31n : ∀ a, σ9 (31, 0) a < 2 := by rw [f9 (31, 0) (hw_ne (by decide)), hfr (31, 0) (hw_ne (by decide))]; exact hb5
                            have h41 : ∀ x, x < zz_N z → (σ4 (31, 0) x = 1 ↔ sp_ser (zz_N z) o true t x) := fun x hx => by rw [(hz4 x hx).1]; exact hT x hx
                            have hTn : ∀ x, x < zz_N z → (σ9 (30, 0) x = 1 ↔ sp_ser (zz_N z) o true (t + 1) x) := fun x hx => (c9 x hx).trans ((gp_gn_ext hXq x).trans (gp_gn_ext (fun c10 => ⟨fun ⟨a9, b10, h1, h2, h3, h4⟩ => ⟨a9, b10, (h41 a9 h1).mp h3, h2, h4⟩, fun ⟨a9, b10, h1, h2, h3⟩ => ⟨a9, b10, hsl t a9 h1, h2, (h41 a9 (hsl t a9 h1)).mpr h1, h3⟩⟩) x))
                            refine nw_iinc X (lv' := [(3, _), (0, _), (1, _), (2, _), (4, _)]) (k := 3) 1 d_Mod_series_154 hl rfl (by decide) (by decide) rfl (fun ls hl => ?_)
                            refine nw_goto X (tgt := 25) d_Mod_series_157 (by decide) ?_
                            exact IH25 (t + 1) _ _ _ _ (by omega) hc8 hck hqn hb29n b9 hb31n hTn h9n V (lv_sub hl [1, 2, 3, 0] rfl)
                          · skip
                            refine nw_iconst X 0 d_Mod_series_88 (by decide) ?_
                            refine nw_istore X (lv' := [(5, _), (0, _), (1, _), (2, _), (3, _), (4, _)]) d_Mod_series_89 hl (by decide) rfl (fun ls hl => ?_)
                            have LP91 : ∀ (d b : Nat) (σ3 : hw_M) (H : Heap) (locs : List Loc) (ls : Array Slot), zz_N z - b < d → (b ≤ zz_N z) → (∀ u : hw_P, u ≠ (30, 0) → σ3 u = σ4 u) → (∀ a, σ3 (30, 0) a < 2) → (∀ x, x < zz_N z → σ3 (30, 0) x = 1 → (∃ a b, a < zz_N z ∧ b < zz_N z ∧ (σ4 (31, 0) a = 1) ∧ x = gp_cm (zz_N z) o a b)) → (∀ a9, a9 < a → ∀ b, b < zz_N z → (σ4 (31, 0) a9 = 1) → σ3 (30, 0) (gp_cm (zz_N z) o a9 b) = 1) → (∀ b9, b9 < b → (σ4 (31, 0) a = 1) → σ3 (30, 0) (gp_cm (zz_N z) o a b9) = 1) → zz_V z σ3 s.heap H locs →  lv_has ls 6 [(0, .ref (zz_A z (20, 0))), (1, .int (nI k)), (2, .int (nI 1)), (3, .int (nI t)), (4, .int (nI a)), (5, .int (nI b))] →  W p l e (hw_r 3) s m args below meth c H locs 0 0 Q (F0 m 91 ls []) := by
                              intro d
                              induction d with
                              | zero => intro b σ3 H locs ls hd; exact absurd hd (Nat.not_lt_zero _)
                              | succ d IH91 =>
                                intro b σ3 H locs ls hd hbN hfr hb2 hY hdn hrow V hl
                                have hB := V.1.2.2
                                have hNe1 : σ3 (20, 0) 1 = zz_N z := by rw [hfr (20, 0) (hw_ne (by decide))]; exact hNe
                                refine nw_iload X d_Mod_series_91 (lv_at hl 5 rfl) ?_
                                refine nw_aload_n X d_Mod_series_93 rfl (lv_at hl 0 rfl) ?_
                                refine gf_Mod_48 X V (hz (20, 0) rfl) d_Mod_series_94 ?_
                                rw [hNe1]
                                refine nw_icmp_ge X (tgt := 144) d_Mod_series_97 (by decide) (by first | assumption | omega) (by first | assumption | omega) (fun hb => ?_) (fun hb => ?_)
                                · skip
                                  have hrow9 : ∀ b9, b9 < zz_N z → (σ4 (31, 0) a = 1) → σ3 (30, 0) (gp_cm (zz_N z) o a b9) = 1 := fun b9 h1 h2 => hrow b9 (by omega) h2
                                  refine nw_iinc X (lv' := [(4, _), (0, _), (1, _), (2, _), (3, _), (5, _)]) (k := 4) 1 d_Mod_series_144 hl rfl (by decide) (by decide) rfl (fun ls hl => ?_)
                                  refine nw_goto X (tgt := 79) d_Mod_series_147 (by decide) ?_
                                  exact IH79 (a + 1) _ _ _ _ (by omega) ha hfr hb2 hY (fun a9 h1 b h2 h3 => by by_cases e : a9 = a; rw [e] at h3 ⊢; exact hrow9 b h2 h3; exact hdn a9 (by omega) b h2 h3) V (lv_sub hl [1, 2, 3, 4, 0] rfl)
                                · skip
                                  refine nw_aload_n X d_Mod_series_100 rfl (lv_at hl 0 rfl) ?_
                                  refine gf_Mod_41 X V (hz (20, 0) rfl) d_Mod_series_101 ?_
                                  refine nw_iload X d_Mod_series_104 (lv_at hl 4 rfl) ?_
                                  refine hw_zald X V (hz (31, 0) rfl) 1 rfl rfl (by omega) (by decide) d_Mod_series_106 ?_
                                  rw [hfr (31, 0) (hw_ne (by decide))]
                                  refine nw_if_eq X (tgt := 144) d_Mod_series_107 (by decide) (by rw [← hfr (31, 0) (hw_ne (by decide))]; exact hB _ _) (fun hcq => ?_) (fun hcq => ?_)
                                  · skip
                                    have hrow9 : ∀ b9, b9 < zz_N z → (σ4 (31, 0) a = 1) → σ3 (30, 0) (gp_cm (zz_N z) o a b9) = 1 := fun b9 h1 h2 => by omega
                                    refine nw_iinc X (lv' := [(4, _), (0, _), (1, _), (2, _), (3, _), (5, _)]) (k := 4) 1 d_Mod_series_144 hl rfl (by decide) (by decide) rfl (fun ls hl => ?_)
                                    refine nw_goto X (tgt := 79) d_Mod_series_147 (by decide) ?_
                                    exact IH79 (a + 1) _ _ _ _ (by omega) ha hfr hb2 hY (fun a9 h1 b h2 h3 => by by_cases e : a9 = a; rw [e] at h3 ⊢; exact hrow9 b h2 h3; exact hdn a9 (by omega) b h2 h3) V (lv_sub hl [1, 2, 3, 4, 0] rfl)
                                  · skip
                                    have hca : σ4 (31, 0) a = 1 := by have := hb5 a; omega
                                    have hcc := hca
                                    have hfl := g.cml ha hb
                                    refine nw_iload_n X d_Mod_series_110 rfl (lv_at hl 2 rfl) ?_
                                    refine nw_if_ne X (tgt := 124) d_Mod_series_111 (by decide) (by decide) (fun hq1 => ?_) (fun hq1 => ?_)
                                    · skip
                                      refine nw_aload_n X d_Mod_series_124 rfl (lv_at hl 0 rfl) ?_
                                      refine gf_Mod_38 X V (hz (20, 0) rfl) d_Mod_series_125 ?_
                                      refine nw_aload_n X d_Mod_series_128 rfl (lv_at hl 0 rfl) ?_
                                      refine nw_iload X d_Mod_series_129 (lv_at hl 4 rfl) ?_
                                      refine nw_iload X d_Mod_series_131 (lv_at hl 5 rfl) ?_
                                      refine hw_calli X V (hz (20, 0) rfl) rfl rfl (cm_Mod_bracket l z σ3 hz (md_mv hD4 hfr hb2) _ (mq_g (mq_30 hfr) hg4) a b ha hb) cs_Mod_91 (by decide) rfl hl.1 rfl (Nat.le_of_ble_eq_true rfl) (by decide) d_Mod_series_133 (fun r σ' H locs V hr => ?_)
                                      obtain ⟨hσ, rfl⟩ := hr
                                      rw [hσ] at V
                                      clear hσ
                                      have hB := V.1.2.2
                                      refine nw_iconst X 1 d_Mod_series_136 (by decide) ?_
                                      refine hw_zast X V (hz (30, 0) rfl) 1 (fun _ => rfl) rfl (by omega) (by decide) (by decide) d_Mod_series_137 (fun H locs V => ?_)
                                      have hB := V.1.2.2
                                      have hfr3 : ∀ u : hw_P, u ≠ (30, 0) → hw_up σ3 (30, 0) (gp_cm (zz_N z) o a b) 1 u = σ4 u := fun u hu => (hw_up_k _ _ _ hu).trans (hfr u hu)
                                      have hb3 : ∀ a9, hw_up σ3 (30, 0) (gp_cm (zz_N z) o a b) 1 (30, 0) a9 < 2 := md_up2 hb2 (by decide)
                                      have hY3 : ∀ x, x < zz_N z → hw_up σ3 (30, 0) (gp_cm (zz_N z) o a b) 1 (30, 0) x = 1 → (∃ a b, a < zz_N z ∧ b < zz_N z ∧ (σ4 (31, 0) a = 1) ∧ x = gp_cm (zz_N z) o a b) := fun x hx h1 => by rw [hw_up_v] at h1; by_cases e : x = gp_cm (zz_N z) o a b; exact ⟨a, b, ha, hb, hcc, e⟩; rw [if_neg e] at h1; exact hY x hx h1
                                      have hdn3 : ∀ a9, a9 < a → ∀ b9, b9 < zz_N z → (σ4 (31, 0) a9 = 1) → hw_up σ3 (30, 0) (gp_cm (zz_N z) o a b) 1 (30, 0) (gp_cm (zz_N z) o a9 b9) = 1 := fun a9 h1 b9 h2 h3 => md_set1 (hdn a9 h1 b9 h2 h3)
                                      have hrow3 : ∀ b9, b9 < b + 1 → (σ4 (31, 0) a = 1) → hw_up σ3 (30, 0) (gp_cm (zz_N z) o a b) 1 (30, 0) (gp_cm (zz_N z) o a b9) = 1 := fun b9 h1 h2 => by by_cases e : b9 = b; rw [e]; exact hw_up_s _ _ _ _; exact md_set1 (hrow b9 (by omega) h2)
                                      refine nw_iinc X (lv' := [(5, _), (0, _), (1, _), (2, _), (3, _), (4, _)]) (k := 5) 1 d_Mod_series_138 hl rfl (by decide) (by decide) rfl (fun ls hl => ?_)
                                      refine nw_goto X (tgt := 91) d_Mod_series_141 (by decide) ?_
                                      exact IH91 (b + 1) _ _ _ _ (by omega) hb hfr3 hb3 hY3 hdn3 hrow3 V (lv_sub hl [1, 2, 3, 4, 5, 0] rfl)
                                    · skip
                                      cases hq1
                            exact LP91 (zz_N z + 1) 0 _ _ _ _ (by omega) (Nat.zero_le _) hfr hb2 hY hdn (fun b9 h => absurd h (Nat.not_lt_zero _)) V (lv_sub hl [1, 2, 3, 4, 5, 0] rfl)
                      have hb2 := hb4
                      have hzr : ∀ y, y < zz_N z → σ4 (30, 0) y = 0 := fun y hy => (hz4 y hy).2
                      exact LP79 (zz_N z + 1) 0 _ _ _ _ (by omega) (Nat.zero_le _) (fun _ _ => rfl) hb2 (fun x hx h1 => by rw [hzr x (by omega)] at h1; cases h1) (fun a9 h => absurd h (Nat.not_lt_zero _)) V (lv_sub hl [1, 2, 3, 4, 0] rfl)
                    · skip
                      refine nw_aload_n X d_Mod_series_48 rfl (lv_at hl 0 rfl) ?_
                      refine gf_Mod_41 X V (hz (20, 0) rfl) d_Mod_series_49 ?_
                      refine nw_iload X d_Mod_series_52 (lv_at hl 4 rfl) ?_
                      refine nw_aload_n X d_Mod_series_54 rfl (lv_at hl 0 rfl) ?_
                      refine gf_Mod_38 X V (hz (20, 0) rfl) d_Mod_series_55 ?_
                      refine nw_iload X d_Mod_series_58 (lv_at hl 4 rfl) ?_
                      refine hw_zald X V (hz (30, 0) rfl) 1 rfl rfl (by omega) (by decide) d_Mod_series_60 ?_
                      refine hw_zast X V (hz (31, 0) rfl) 1 (fun _ => rfl) rfl (by omega) (by decide) (by rw [hw9 a (Nat.le_refl _)]; exact hb30 a) d_Mod_series_61 (fun H locs V => ?_)
                      refine nw_aload_n X d_Mod_series_62 rfl (lv_at hl 0 rfl) ?_
                      refine gf_Mod_38 X V (hz (20, 0) rfl) d_Mod_series_63 ?_
                      refine nw_iload X d_Mod_series_66 (lv_at hl 4 rfl) ?_
                      refine nw_iconst X 0 d_Mod_series_68 (by decide) ?_
                      refine hw_zast X V (hz (30, 0) rfl) 1 (fun _ => rfl) rfl (by omega) (by decide) (by decide) d_Mod_series_69 (fun H locs V => ?_)
                      refine nw_iinc X (lv' := [(4, _), (0, _), (1, _), (2, _), (3, _)]) (k := 4) 1 d_Mod_series_70 hl rfl (by decide) (by decide) rfl (fun ls hl => ?_)
                      refine nw_goto X (tgt := 39) d_Mod_series_73 (by decide) ?_
                      exact IH39 (a + 1) _ _ _ _ (by omega) ha (fun u h1 h2 => (hw_up_k _ _ _ h1).trans ((hw_up_k _ _ _ h2).trans (hfr u h1 h2))) (by rw [sr_a]; exact md_up2 hb4 (by decide)) (by rw [hw_up_k _ _ _ (hw_ne (by decide))]; exact md_up2 hb5 (by rw [hw9 a (Nat.le_refl _)]; exact hb30 a)) (fun y hy => by
                        rw [hw_up_k _ _ _ (show ((31, 0) : hw_P) ≠ (30, 0) from hw_ne (by decide)), hw_up_v, hw_up_v, hw_up_k _ _ _ (show ((30, 0) : hw_P) ≠ (31, 0) from hw_ne (by decide))]
                        by_cases e : y = a
                        · rw [if_pos e, if_pos e, e, hw9 a (Nat.le_refl _)]; exact ⟨rfl, rfl⟩
                        · rw [if_neg e, if_neg e]; exact hv y (by omega)) (fun y hy => by rw [hw_up_i _ _ _ (by omega), hw_up_k _ _ _ (show ((30, 0) : hw_P) ≠ (31, 0) from hw_ne (by decide))]; exact hw9 y (by omega)) V (lv_sub hl [1, 2, 3, 4, 0] rfl)
                exact LP39 (zz_N z + 1) 0 _ _ _ _ (by omega) (Nat.zero_le _) (fun _ _ _ => rfl) hb30 hb31 (fun y hy => absurd hy (Nat.not_lt_zero _)) (fun y _ => rfl) V (lv_sub hl [1, 2, 3, 4, 0] rfl)
        exact LP25 (8 + 1) 0 _ _ _ _ (by omega) (Nat.zero_le _) (Nat.zero_le _) (mq_30 hfr) (by rw [hfr (29, 0) (hw_ne (by decide))]; exact h29) hb2 (by rw [hfr (31, 0) (hw_ne (by decide))]; exact h31) (fun x hx => ⟨fun _ => hx, fun _ => hv x (by omega)⟩) (hfr (29, 0) (hw_ne (by decide))) V (lv_sub hl [1, 2, 3, 0] rfl)
      · skip
        refine nw_aload_n X d_Mod_series_10 rfl (lv_at hl 0 rfl) ?_
        refine gf_Mod_38 X V (hz (20, 0) rfl) d_Mod_series_11 ?_
        refine nw_iload_n X d_Mod_series_14 rfl (lv_at hl 3 rfl) ?_
        refine nw_iconst X 1 d_Mod_series_15 (by decide) ?_
        refine hw_zast X V (hz (30, 0) rfl) 1 (fun _ => rfl) rfl (by omega) (by decide) (by decide) d_Mod_series_16 (fun H locs V => ?_)
        refine nw_iinc X (lv' := [(3, _), (0, _), (1, _), (2, _)]) (k := 3) 1 d_Mod_series_17 hl rfl (by decide) (by decide) rfl (fun ls hl => ?_)
        refine nw_goto X (tgt := 2) d_Mod_series_20 (by decide) ?_
        exact IH2 (a + 1) _ _ _ _ (by omega) ha (fun u hu => (hw_up_k _ _ _ hu).trans (hfr u hu)) (md_up2 hb2 (by decide)) (fm_put hv rfl) V (lv_sub hl [1, 2, 3, 0] rfl)
  exact LP2 (zz_N z + 1) 0 _ _ _ _ (by omega) (Nat.zero_le _) (fun _ _ => rfl) h30 (fun y hy => absurd hy (Nat.not_lt_zero _)) V (lv_sub hl [1, 2, 3, 0] rfl)
set_option maxHeartbeats 4000000 in
set_option maxRecDepth 20000 in
theorem cm_Mod_derived (l : Launch) (z : zz_Z) (σ : hw_M) (hz : ∀ k, zz_k (zz_n z) k → zz_O z k) (r9 w p9 : Nat → Nat) (c9 : Nat → Nat → Nat) (S : Nat → Nat → Prop) (hM : ms_ok z σ r9 w p9 c9 S) (x : Int32) : Met l y_Mod_derived (hw_c y_Mod_derived b_Mod_derived 2 (some .int)) (hw_r 4) (va_Pc [.ref (zz_A z (20, 0)), .int x] (zz_B z σ)) (va_Qi (fun r σ' => ms_ok z σ' r9 w p9 c9 S ∧ mq_q σ σ' ∧ an_o (σ (20, 0) 6 = 1 ∧ ¬ x < 0) (gp_cd (zz_N z) (sp_ser (zz_N z) (tw_op (zz_n z) r9 w p9 c9 (zz_n z)) false (min (el_v x) 8))) r) (zz_B z) (zz_F z)) 0 0 (zz_F z) := by
  refine hw_meti (post := (fun r σ' => ms_ok z σ' r9 w p9 c9 S ∧ mq_q σ σ' ∧ an_o (σ (20, 0) 6 = 1 ∧ ¬ x < 0) (gp_cd (zz_N z) (sp_ser (zz_N z) (tw_op (zz_n z) r9 w p9 c9 (zz_n z)) false (min (el_v x) 8))) r)) (by decide) (Nat.le_of_ble_eq_true rfl) ?_
  intro p e s m args below meth c ls Q X hret V hl
  have hl : lv_has ls 2 [(0, .ref (zz_A z (20, 0))), (1, .int x)] := hl
  have hB := V.1.2.2
  obtain ⟨hD, hR, hf2, hfx⟩ := id hM
  obtain ⟨hn7, hN, hn, hNe, h29, h30, h31⟩ := id hD
  obtain ⟨hw, hsz, hri, hcj⟩ := id hR
  refine nw_aload_n X d_Mod_derived_0 rfl (lv_at hl 0 rfl) ?_
  refine gf_Mod_55 X V (hz (20, 0) rfl) d_Mod_derived_1 ?_
  refine nw_if_eq X (tgt := 11) d_Mod_derived_4 (by decide) (by omega) (fun hc0 => ?_) (fun hc0 => ?_)
  · skip
    have hno : ¬ (σ (20, 0) 6 = 1 ∧ ¬ x < 0) := fun h => by omega
    refine nw_iconstv X (-1) d_Mod_derived_11 (by decide) ?_
    refine nw_goto X (tgt := 21) d_Mod_derived_12 (by decide) ?_
    exact hret _ _ _ _ _ _ d_Mod_derived_21 V ⟨hM, mq_q.rf, fun h => absurd h hno, fun _ => rfl⟩
  · skip
    have hf1 : σ (20, 0) 6 = 1 := by omega
    refine nw_iload_n X d_Mod_derived_7 rfl (lv_at hl 1 rfl) ?_
    refine lv_if_ge (tgt := 15) X.1.1 X.1.2.1 d_Mod_derived_8 (by decide) (fun h0 => ?_) (fun h0 => ?_)
    · skip
      have hx0 : ¬ x < 0 := Int32.not_lt.mpr h0
      obtain ⟨k, hk9, rfl⟩ := nI_of hx0
      obtain ⟨hk, hg, hpl⟩ := hfx hf1
      refine nw_aload_n X d_Mod_derived_15 rfl (lv_at hl 0 rfl) ?_
      refine nw_iload_n X d_Mod_derived_16 rfl (lv_at hl 1 rfl) ?_
      refine nw_iconst X 0 d_Mod_derived_17 (by decide) ?_
      refine hw_calli X V (hz (20, 0) rfl) rfl rfl (cm_Mod_series_false l z σ hz hD _ hg k hk9) cs_Mod_110 (by decide) rfl hl.1 rfl (Nat.le_of_ble_eq_true rfl) (by decide) d_Mod_derived_18 (fun r σ1 H locs V hr => ?_)
      obtain ⟨q1, e29, b30, b31, rfl⟩ := hr
      exact hret _ _ _ _ _ _ d_Mod_derived_21 V ⟨ms_set hM q1 ⟨by rw [e29]; exact h29, b30, b31⟩ (fun hf s h1 a h2 => by rw [e29]; exact hpl s h1 a h2), q1, fun _ => by rw [show el_v (nI k) = k from nI_clamp hk9], fun h => absurd ⟨hf1, hx0⟩ h⟩
    · skip
      have hno : ¬ (σ (20, 0) 6 = 1 ∧ ¬ x < 0) := fun h => h.2 (Int32.not_le.mp h0)
      refine nw_iconstv X (-1) d_Mod_derived_11 (by decide) ?_
      refine nw_goto X (tgt := 21) d_Mod_derived_12 (by decide) ?_
      exact hret _ _ _ _ _ _ d_Mod_derived_21 V ⟨hM, mq_q.rf, fun h => absurd h hno, fun _ => rfl⟩
set_option maxHeartbeats 4000000 in
set_option maxRecDepth 20000 in
theorem cm_Mod_lower (l : Launch) (z : zz_Z) (σ : hw_M) (hz : ∀ k, zz_k (zz_n z) k → zz_O z k) (r9 w p9 : Nat → Nat) (c9 : Nat → Nat → Nat) (S : Nat → Nat → Prop) (hM : ms_ok z σ r9 w p9 c9 S) (x : Int32) : Met l y_Mod_lower (hw_c y_Mod_lower b_Mod_lower 2 (some .int)) (hw_r 4) (va_Pc [.ref (zz_A z (20, 0)), .int x] (zz_B z σ)) (va_Qi (fun r σ' => ms_ok z σ' r9 w p9 c9 S ∧ mq_q σ σ' ∧ an_o (σ (20, 0) 6 = 1 ∧ ¬ x < 0) (gp_cd (zz_N z) (sp_ser (zz_N z) (tw_op (zz_n z) r9 w p9 c9 (zz_n z)) true (min (el_v x) 8))) r) (zz_B z) (zz_F z)) 0 0 (zz_F z) := by
  refine hw_meti (post := (fun r σ' => ms_ok z σ' r9 w p9 c9 S ∧ mq_q σ σ' ∧ an_o (σ (20, 0) 6 = 1 ∧ ¬ x < 0) (gp_cd (zz_N z) (sp_ser (zz_N z) (tw_op (zz_n z) r9 w p9 c9 (zz_n z)) true (min (el_v x) 8))) r)) (by decide) (Nat.le_of_ble_eq_true rfl) ?_
  intro p e s m args below meth c ls Q X hret V hl
  have hl : lv_has ls 2 [(0, .ref (zz_A z (20, 0))), (1, .int x)] := hl
  have hB := V.1.2.2
  obtain ⟨hD, hR, hf2, hfx⟩ := id hM
  obtain ⟨hn7, hN, hn, hNe, h29, h30, h31⟩ := id hD
  obtain ⟨hw, hsz, hri, hcj⟩ := id hR
  refine nw_aload_n X d_Mod_lower_0 rfl (lv_at hl 0 rfl) ?_
  refine gf_Mod_55 X V (hz (20, 0) rfl) d_Mod_lower_1 ?_
  refine nw_if_eq X (tgt := 11) d_Mod_lower_4 (by decide) (by omega) (fun hc0 => ?_) (fun hc0 => ?_)
  · skip
    have hno : ¬ (σ (20, 0) 6 = 1 ∧ ¬ x < 0) := fun h => by omega
    refine nw_iconstv X (-1) d_Mod_lower_11 (by decide) ?_
    refine nw_goto X (tgt := 21) d_Mod_lower_12 (by decide) ?_
    exact hret _ _ _ _ _ _ d_Mod_lower_21 V ⟨hM, mq_q.rf, fun h => absurd h hno, fun _ => rfl⟩
  · skip
    have hf1 : σ (20, 0) 6 = 1 := by omega
    refine nw_iload_n X d_Mod_lower_7 rfl (lv_at hl 1 rfl) ?_
    refine lv_if_ge (tgt := 15) X.1.1 X.1.2.1 d_Mod_lower_8 (by decide) (fun h0 => ?_) (fun h0 => ?_)
    · skip
      have hx0 : ¬ x < 0 := Int32.not_lt.mpr h0
      obtain ⟨k, hk9, rfl⟩ := nI_of hx0
      obtain ⟨hk, hg, hpl⟩ := hfx hf1
      refine nw_aload_n X d_Mod_lower_15 rfl (lv_at hl 0 rfl) ?_
      refine nw_iload_n X d_Mod_lower_16 rfl (lv_at hl 1 rfl) ?_
      refine nw_iconst X 1 d_Mod_lower_17 (by decide) ?_
      refine hw_calli X V (hz (20, 0) rfl) rfl rfl (cm_Mod_series_true l z σ hz hD _ hg k hk9) cs_Mod_110 (by decide) rfl hl.1 rfl (Nat.le_of_ble_eq_true rfl) (by decide) d_Mod_lower_18 (fun r σ1 H locs V hr => ?_)
      obtain ⟨q1, e29, b30, b31, rfl⟩ := hr
      exact hret _ _ _ _ _ _ d_Mod_lower_21 V ⟨ms_set hM q1 ⟨by rw [e29]; exact h29, b30, b31⟩ (fun hf s h1 a h2 => by rw [e29]; exact hpl s h1 a h2), q1, fun _ => by rw [show el_v (nI k) = k from nI_clamp hk9], fun h => absurd ⟨hf1, hx0⟩ h⟩
    · skip
      have hno : ¬ (σ (20, 0) 6 = 1 ∧ ¬ x < 0) := fun h => h.2 (Int32.not_le.mp h0)
      refine nw_iconstv X (-1) d_Mod_lower_11 (by decide) ?_
      refine nw_goto X (tgt := 21) d_Mod_lower_12 (by decide) ?_
      exact hret _ _ _ _ _ _ d_Mod_lower_21 V ⟨hM, mq_q.rf, fun h => absurd h hno, fun _ => rfl⟩
