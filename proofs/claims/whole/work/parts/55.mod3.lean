/-! The reference: sets made anew, series, classes. By program (wip/whole/gen/mod3.py). -/
set_option maxHeartbeats 4000000 in
set_option maxRecDepth 20000 in
theorem cm_Mod_spread (l : Launch) (z : zz_Z) (σ : hw_M) (hz : ∀ k, zz_k (zz_n z) k → zz_O z k) (r9 w p9 : Nat → Nat) (c9 : Nat → Nat → Nat) (S : Nat → Nat → Prop) (hM : ms_ok z σ r9 w p9 c9 S) (hSl : ∀ s, s < 4 → ∀ v, S s v → v < zz_N z) (x : Int32) : Met l y_Mod_spread (hw_c y_Mod_spread b_Mod_spread 4 (some .int)) (hw_r 3) (va_Pc [.ref (zz_A z (20, 0)), .int x] (zz_B z σ)) (va_Qi (fun r σ' => ms_ok z σ' r9 w p9 c9 (sa_t (σ (20, 0) 6 = 1 ∧ el_i 4 x) (el_v x) (sp_spread (zz_N z) (tw_op (zz_n z) r9 w p9 c9 (zz_n z)) (S (el_v x))) S) ∧ mq_q σ σ' ∧ an_o (σ (20, 0) 6 = 1 ∧ el_i 4 x) (gp_cd (zz_N z) (sp_spread (zz_N z) (tw_op (zz_n z) r9 w p9 c9 (zz_n z)) (S (el_v x)))) r) (zz_B z) (zz_F z)) 0 0 (zz_F z) := by
  refine hw_meti (post := (fun r σ' => ms_ok z σ' r9 w p9 c9 (sa_t (σ (20, 0) 6 = 1 ∧ el_i 4 x) (el_v x) (sp_spread (zz_N z) (tw_op (zz_n z) r9 w p9 c9 (zz_n z)) (S (el_v x))) S) ∧ mq_q σ σ' ∧ an_o (σ (20, 0) 6 = 1 ∧ el_i 4 x) (gp_cd (zz_N z) (sp_spread (zz_N z) (tw_op (zz_n z) r9 w p9 c9 (zz_n z)) (S (el_v x)))) r)) (by decide) (Nat.le_of_ble_eq_true rfl) ?_
  intro p e s m args below meth c ls Q X hret V hl
  have hl : lv_has ls 4 [(0, .ref (zz_A z (20, 0))), (1, .int x)] := hl
  have hB := V.1.2.2
  obtain ⟨hD, hR, hf2, hfx⟩ := id hM
  obtain ⟨hn7, hN, hn, hNe, h29, h30, h31⟩ := id hD
  obtain ⟨hw, hsz, hri, hcj⟩ := id hR
  refine nw_aload_n X d_Mod_spread_0 rfl (lv_at hl 0 rfl) ?_
  refine nw_iload_n X d_Mod_spread_1 rfl (lv_at hl 1 rfl) ?_
  refine hw_calli X V (hz (20, 0) rfl) rfl rfl (cm_Mod_isPlace l z σ hz hD hf2 x) cs_Mod_101 (by decide) rfl hl.1 rfl (Nat.le_of_ble_eq_true rfl) (by decide) d_Mod_spread_2 (fun r σ' H locs V hr => ?_)
  obtain ⟨b1, hb1, rfl, hσ, hbp1⟩ := hr
  rw [hσ] at V
  clear hσ
  have hB := V.1.2.2
  refine nw_if_ne X (tgt := 10) d_Mod_spread_5 (by decide) (by omega) (fun hc => ?_) (fun hc => ?_)
  · skip
    obtain ⟨hf1, s9, hs, rfl⟩ := hbp1.mp (by omega)
    obtain ⟨hk, hg, hpl⟩ := hfx hf1
    have g := hg.1
    have ev : el_v (nI s9) = s9 := el_nv (by omega) hs
    refine nw_iconst X 0 d_Mod_spread_10 (by decide) ?_
    refine nw_istore_n X (lv' := [(2, _), (0, _), (1, _)]) d_Mod_spread_11 rfl hl (by decide) rfl (fun ls hl => ?_)
    have LP12 : ∀ (d a : Nat) (σ1 : hw_M) (H : Heap) (locs : List Loc) (ls : Array Slot), zz_N z - a < d → (a ≤ zz_N z) → (∀ u : hw_P, u ≠ (30, 0) → σ1 u = σ u) → (∀ a, σ1 (30, 0) a < 2) → (∀ y, y < a → σ1 (30, 0) y = 0) → zz_V z σ1 s.heap H locs →  lv_has ls 4 [(0, .ref (zz_A z (20, 0))), (1, .int (nI s9)), (2, .int (nI a))] →  W p l e (hw_r 3) s m args below meth c H locs 0 0 Q (F0 m 12 ls []) := by
      intro d
      induction d with
      | zero => intro a σ1 H locs ls hd; exact absurd hd (Nat.not_lt_zero _)
      | succ d IH12 =>
        intro a σ1 H locs ls hd haN hfr hb2 hzr V hl
        have hB := V.1.2.2
        have hNe1 : σ1 (20, 0) 1 = zz_N z := by rw [hfr (20, 0) (hw_ne (by decide))]; exact hNe
        refine nw_iload_n X d_Mod_spread_12 rfl (lv_at hl 2 rfl) ?_
        refine nw_aload_n X d_Mod_spread_13 rfl (lv_at hl 0 rfl) ?_
        refine gf_Mod_48 X V (hz (20, 0) rfl) d_Mod_spread_14 ?_
        rw [hNe1]
        refine nw_icmp_ge X (tgt := 33) d_Mod_spread_17 (by decide) (by first | assumption | omega) (by first | assumption | omega) (fun ha => ?_) (fun ha => ?_)
        · skip
          refine nw_iconst X 0 d_Mod_spread_33 (by decide) ?_
          refine nw_istore_n X (lv' := [(2, _), (0, _), (1, _)]) d_Mod_spread_34 rfl hl (by decide) rfl (fun ls hl => ?_)
          have LP35 : ∀ (d a : Nat) (σ2 : hw_M) (H : Heap) (locs : List Loc) (ls : Array Slot), zz_N z - a < d → (a ≤ zz_N z) → (∀ u : hw_P, u ≠ (30, 0) → σ2 u = σ u) → (∀ a, σ2 (30, 0) a < 2) → (∀ x, x < zz_N z → σ2 (30, 0) x = 1 → (∃ a b, a < zz_N z ∧ b < zz_N z ∧ S s9 a ∧ x = gp_cj (zz_N z) (tw_op (zz_n z) r9 w p9 c9 (zz_n z)) a b)) → (∀ a9, a9 < a → ∀ b, b < zz_N z → S s9 a9 → σ2 (30, 0) (gp_cj (zz_N z) (tw_op (zz_n z) r9 w p9 c9 (zz_n z)) a9 b) = 1) → zz_V z σ2 s.heap H locs →  lv_has ls 4 [(0, .ref (zz_A z (20, 0))), (1, .int (nI s9)), (2, .int (nI a))] →  W p l e (hw_r 3) s m args below meth c H locs 0 0 Q (F0 m 35 ls []) := by
            intro d
            induction d with
            | zero => intro a σ2 H locs ls hd; exact absurd hd (Nat.not_lt_zero _)
            | succ d IH35 =>
              intro a σ2 H locs ls hd haN hfr hb2 hY hdn V hl
              have hB := V.1.2.2
              have hNe1 : σ2 (20, 0) 1 = zz_N z := by rw [hfr (20, 0) (hw_ne (by decide))]; exact hNe
              refine nw_iload_n X d_Mod_spread_35 rfl (lv_at hl 2 rfl) ?_
              refine nw_aload_n X d_Mod_spread_36 rfl (lv_at hl 0 rfl) ?_
              refine gf_Mod_48 X V (hz (20, 0) rfl) d_Mod_spread_37 ?_
              rw [hNe1]
              refine nw_icmp_ge X (tgt := 92) d_Mod_spread_40 (by decide) (by first | assumption | omega) (by first | assumption | omega) (fun ha => ?_) (fun ha => ?_)
              · skip
                have hXq : ∀ x, (x < zz_N z ∧ σ2 (30, 0) x = 1) ↔ (∃ a b, a < zz_N z ∧ b < zz_N z ∧ S s9 a ∧ x = gp_cj (zz_N z) (tw_op (zz_n z) r9 w p9 c9 (zz_n z)) a b) := fun x => ⟨fun q => hY x q.1 q.2, fun ⟨a9, b9, h1, h2, h3, h4⟩ => by rw [h4]; exact ⟨(g.cjl h1 h2), hdn a9 (by omega) b9 h2 h3⟩⟩
                have hD2 := md_mv hD hfr hb2
                have hg2 := mq_g (mq_30 hfr) hg
                refine nw_aload_n X d_Mod_spread_92 rfl (lv_at hl 0 rfl) ?_
                refine nw_iload_n X d_Mod_spread_93 rfl (lv_at hl 1 rfl) ?_
                refine hw_calli X V (hz (20, 0) rfl) rfl rfl (cm_Mod_put l z σ2 hz hD2 _ hg2 s9 hs) cs_Mod_107 (by decide) rfl hl.1 rfl (Nat.le_of_ble_eq_true rfl) (by decide) d_Mod_spread_94 (fun r σ9 H locs V hr => ?_)
                obtain ⟨f9, b29, b30, v9, o9, rfl⟩ := hr
                have hB := V.1.2.2
                have hq9 : mq_q σ σ9 := fun u a9 b9 c10 => (f9 u a9 b9).trans (hfr u b9)
                exact hret _ _ _ _ _ _ d_Mod_spread_97 V (by
                  rw [ev]
                  have hYS : ∀ x, (∃ a b, a < zz_N z ∧ b < zz_N z ∧ S s9 a ∧ x = gp_cj (zz_N z) (tw_op (zz_n z) r9 w p9 c9 (zz_n z)) a b) ↔ ∃ a b, S s9 a ∧ b < zz_N z ∧ x = gp_cj (zz_N z) (tw_op (zz_n z) r9 w p9 c9 (zz_n z)) a b := fun x => ⟨fun ⟨a, b, h1, h2, h3, h4⟩ => ⟨a, b, h3, h2, h4⟩, fun ⟨a, b, h1, h2, h3⟩ => ⟨a, b, hSl s9 hs a h1, h2, h1, h3⟩⟩
                  have hJ2 : ∀ x, gp_gn (zz_N z) (tw_op (zz_n z) r9 w p9 c9 (zz_n z)) (fun x => x < zz_N z ∧ σ2 (30, 0) x = 1) x ↔ (sp_spread (zz_N z) (tw_op (zz_n z) r9 w p9 c9 (zz_n z)) (S s9)) x := fun x => (gp_gn_ext hXq x).trans (gp_gn_ext hYS x)
                  exact ⟨ms_put hM hf1 hs ⟨hf1, s9, hs, rfl⟩ hq9 ⟨b29, b30, by rw [f9 (31, 0) (hw_ne (by decide)) (hw_ne (by decide)), hfr (31, 0) (hw_ne (by decide))]; exact h31⟩ (fun x hx => (v9 x hx).trans (hJ2 x)) (fun i hi => (o9 i hi).trans (by rw [hfr (29, 0) (hw_ne (by decide))])), hq9, fun _ => congrArg nI (gp_cd_congr (fun x _ => hJ2 x)), fun h => absurd ⟨hf1, s9, hs, rfl⟩ h⟩)
              · skip
                refine nw_iconst X 0 d_Mod_spread_43 (by decide) ?_
                refine nw_istore_n X (lv' := [(3, _), (0, _), (1, _), (2, _)]) d_Mod_spread_44 rfl hl (by decide) rfl (fun ls hl => ?_)
                have LP45 : ∀ (d b : Nat) (σ3 : hw_M) (H : Heap) (locs : List Loc) (ls : Array Slot), zz_N z - b < d → (b ≤ zz_N z) → (∀ u : hw_P, u ≠ (30, 0) → σ3 u = σ u) → (∀ a, σ3 (30, 0) a < 2) → (∀ x, x < zz_N z → σ3 (30, 0) x = 1 → (∃ a b, a < zz_N z ∧ b < zz_N z ∧ S s9 a ∧ x = gp_cj (zz_N z) (tw_op (zz_n z) r9 w p9 c9 (zz_n z)) a b)) → (∀ a9, a9 < a → ∀ b, b < zz_N z → S s9 a9 → σ3 (30, 0) (gp_cj (zz_N z) (tw_op (zz_n z) r9 w p9 c9 (zz_n z)) a9 b) = 1) → (∀ b9, b9 < b → S s9 a → σ3 (30, 0) (gp_cj (zz_N z) (tw_op (zz_n z) r9 w p9 c9 (zz_n z)) a b9) = 1) → zz_V z σ3 s.heap H locs →  lv_has ls 4 [(0, .ref (zz_A z (20, 0))), (1, .int (nI s9)), (2, .int (nI a)), (3, .int (nI b))] →  W p l e (hw_r 3) s m args below meth c H locs 0 0 Q (F0 m 45 ls []) := by
                  intro d
                  induction d with
                  | zero => intro b σ3 H locs ls hd; exact absurd hd (Nat.not_lt_zero _)
                  | succ d IH45 =>
                    intro b σ3 H locs ls hd hbN hfr hb2 hY hdn hrow V hl
                    have hB := V.1.2.2
                    have hNe1 : σ3 (20, 0) 1 = zz_N z := by rw [hfr (20, 0) (hw_ne (by decide))]; exact hNe
                    refine nw_iload_n X d_Mod_spread_45 rfl (lv_at hl 3 rfl) ?_
                    refine nw_aload_n X d_Mod_spread_46 rfl (lv_at hl 0 rfl) ?_
                    refine gf_Mod_48 X V (hz (20, 0) rfl) d_Mod_spread_47 ?_
                    rw [hNe1]
                    refine nw_icmp_ge X (tgt := 86) d_Mod_spread_50 (by decide) (by first | assumption | omega) (by first | assumption | omega) (fun hb => ?_) (fun hb => ?_)
                    · skip
                      have hrow9 : ∀ b9, b9 < zz_N z → S s9 a → σ3 (30, 0) (gp_cj (zz_N z) (tw_op (zz_n z) r9 w p9 c9 (zz_n z)) a b9) = 1 := fun b9 h1 h2 => hrow b9 (by omega) h2
                      refine nw_iinc X (lv' := [(2, _), (0, _), (1, _), (3, _)]) (k := 2) 1 d_Mod_spread_86 hl rfl (by decide) (by decide) rfl (fun ls hl => ?_)
                      refine nw_goto X (tgt := 35) d_Mod_spread_89 (by decide) ?_
                      exact IH35 (a + 1) _ _ _ _ (by omega) ha hfr hb2 hY (fun a9 h1 b h2 h3 => by by_cases e : a9 = a; rw [e] at h3 ⊢; exact hrow9 b h2 h3; exact hdn a9 (by omega) b h2 h3) V (lv_sub hl [1, 2, 0] rfl)
                    · skip
                      refine nw_aload_n X d_Mod_spread_53 rfl (lv_at hl 0 rfl) ?_
                      refine gf_Mod_34 X V (hz (20, 0) rfl) d_Mod_spread_54 ?_
                      refine nw_sipush X 128 d_Mod_spread_57 (by decide) ?_
                      refine nw_iload_n X d_Mod_spread_60 rfl (lv_at hl 1 rfl) ?_
                      refine nw_imul X d_Mod_spread_61 ?_
                      refine nw_iload_n X d_Mod_spread_62 rfl (lv_at hl 2 rfl) ?_
                      refine nw_iadd X d_Mod_spread_63 ?_
                      refine hw_zald X V (hz (29, 0) rfl) 1 rfl rfl (by omega) (by decide) d_Mod_spread_64 ?_
                      rw [hfr (29, 0) (hw_ne (by decide))]
                      refine nw_if_eq X (tgt := 86) d_Mod_spread_65 (by decide) (by rw [← hfr (29, 0) (hw_ne (by decide))]; exact hB _ _) (fun hcq => ?_) (fun hcq => ?_)
                      · skip
                        have hrow9 : ∀ b9, b9 < zz_N z → S s9 a → σ3 (30, 0) (gp_cj (zz_N z) (tw_op (zz_n z) r9 w p9 c9 (zz_n z)) a b9) = 1 := fun b9 h1 h2 => by have := (hpl s9 hs a ha).mpr h2; omega
                        refine nw_iinc X (lv' := [(2, _), (0, _), (1, _), (3, _)]) (k := 2) 1 d_Mod_spread_86 hl rfl (by decide) (by decide) rfl (fun ls hl => ?_)
                        refine nw_goto X (tgt := 35) d_Mod_spread_89 (by decide) ?_
                        exact IH35 (a + 1) _ _ _ _ (by omega) ha hfr hb2 hY (fun a9 h1 b h2 h3 => by by_cases e : a9 = a; rw [e] at h3 ⊢; exact hrow9 b h2 h3; exact hdn a9 (by omega) b h2 h3) V (lv_sub hl [1, 2, 0] rfl)
                      · skip
                        have hcc : S s9 a := (hpl s9 hs a ha).mp (by have := h29 (128 * s9 + a); omega)
                        have hfl := g.cjl ha hb
                        refine nw_aload_n X d_Mod_spread_68 rfl (lv_at hl 0 rfl) ?_
                        refine gf_Mod_38 X V (hz (20, 0) rfl) d_Mod_spread_69 ?_
                        refine nw_aload_n X d_Mod_spread_72 rfl (lv_at hl 0 rfl) ?_
                        refine nw_iload_n X d_Mod_spread_73 rfl (lv_at hl 2 rfl) ?_
                        refine nw_iload_n X d_Mod_spread_74 rfl (lv_at hl 3 rfl) ?_
                        refine hw_calli X V (hz (20, 0) rfl) rfl rfl (cm_Mod_by l z σ3 hz (md_mv hD hfr hb2) _ (mq_g (mq_30 hfr) hg) a b ha hb) cs_Mod_88 (by decide) rfl hl.1 rfl (Nat.le_of_ble_eq_true rfl) (by decide) d_Mod_spread_75 (fun r σ' H locs V hr => ?_)
                        obtain ⟨hσ, rfl⟩ := hr
                        rw [hσ] at V
                        clear hσ
                        have hB := V.1.2.2
                        refine nw_iconst X 1 d_Mod_spread_78 (by decide) ?_
                        refine hw_zast X V (hz (30, 0) rfl) 1 (fun _ => rfl) rfl (by omega) (by decide) (by decide) d_Mod_spread_79 (fun H locs V => ?_)
                        have hB := V.1.2.2
                        have hfr3 : ∀ u : hw_P, u ≠ (30, 0) → hw_up σ3 (30, 0) (gp_cj (zz_N z) (tw_op (zz_n z) r9 w p9 c9 (zz_n z)) a b) 1 u = σ u := fun u hu => (hw_up_k _ _ _ hu).trans (hfr u hu)
                        have hb3 : ∀ a9, hw_up σ3 (30, 0) (gp_cj (zz_N z) (tw_op (zz_n z) r9 w p9 c9 (zz_n z)) a b) 1 (30, 0) a9 < 2 := md_up2 hb2 (by decide)
                        have hY3 : ∀ x, x < zz_N z → hw_up σ3 (30, 0) (gp_cj (zz_N z) (tw_op (zz_n z) r9 w p9 c9 (zz_n z)) a b) 1 (30, 0) x = 1 → (∃ a b, a < zz_N z ∧ b < zz_N z ∧ S s9 a ∧ x = gp_cj (zz_N z) (tw_op (zz_n z) r9 w p9 c9 (zz_n z)) a b) := fun x hx h1 => by rw [hw_up_v] at h1; by_cases e : x = gp_cj (zz_N z) (tw_op (zz_n z) r9 w p9 c9 (zz_n z)) a b; exact ⟨a, b, ha, hb, hcc, e⟩; rw [if_neg e] at h1; exact hY x hx h1
                        have hdn3 : ∀ a9, a9 < a → ∀ b9, b9 < zz_N z → S s9 a9 → hw_up σ3 (30, 0) (gp_cj (zz_N z) (tw_op (zz_n z) r9 w p9 c9 (zz_n z)) a b) 1 (30, 0) (gp_cj (zz_N z) (tw_op (zz_n z) r9 w p9 c9 (zz_n z)) a9 b9) = 1 := fun a9 h1 b9 h2 h3 => md_set1 (hdn a9 h1 b9 h2 h3)
                        have hrow3 : ∀ b9, b9 < b + 1 → S s9 a → hw_up σ3 (30, 0) (gp_cj (zz_N z) (tw_op (zz_n z) r9 w p9 c9 (zz_n z)) a b) 1 (30, 0) (gp_cj (zz_N z) (tw_op (zz_n z) r9 w p9 c9 (zz_n z)) a b9) = 1 := fun b9 h1 h2 => by by_cases e : b9 = b; rw [e]; exact hw_up_s _ _ _ _; exact md_set1 (hrow b9 (by omega) h2)
                        refine nw_iinc X (lv' := [(3, _), (0, _), (1, _), (2, _)]) (k := 3) 1 d_Mod_spread_80 hl rfl (by decide) (by decide) rfl (fun ls hl => ?_)
                        refine nw_goto X (tgt := 45) d_Mod_spread_83 (by decide) ?_
                        exact IH45 (b + 1) _ _ _ _ (by omega) hb hfr3 hb3 hY3 hdn3 hrow3 V (lv_sub hl [1, 2, 3, 0] rfl)
                exact LP45 (zz_N z + 1) 0 _ _ _ _ (by omega) (Nat.zero_le _) hfr hb2 hY hdn (fun b9 h => absurd h (Nat.not_lt_zero _)) V (lv_sub hl [1, 2, 3, 0] rfl)
          exact LP35 (zz_N z + 1) 0 _ _ _ _ (by omega) (Nat.zero_le _) hfr hb2 (fun x hx h1 => by rw [hzr x (by omega)] at h1; cases h1) (fun a9 h => absurd h (Nat.not_lt_zero _)) V (lv_sub hl [1, 2, 0] rfl)
        · skip
          refine nw_aload_n X d_Mod_spread_20 rfl (lv_at hl 0 rfl) ?_
          refine gf_Mod_38 X V (hz (20, 0) rfl) d_Mod_spread_21 ?_
          refine nw_iload_n X d_Mod_spread_24 rfl (lv_at hl 2 rfl) ?_
          refine nw_iconst X 0 d_Mod_spread_25 (by decide) ?_
          refine hw_zast X V (hz (30, 0) rfl) 1 (fun _ => rfl) rfl (by omega) (by decide) (by decide) d_Mod_spread_26 (fun H locs V => ?_)
          refine nw_iinc X (lv' := [(2, _), (0, _), (1, _)]) (k := 2) 1 d_Mod_spread_27 hl rfl (by decide) (by decide) rfl (fun ls hl => ?_)
          refine nw_goto X (tgt := 12) d_Mod_spread_30 (by decide) ?_
          exact IH12 (a + 1) _ _ _ _ (by omega) ha (fun u hu => (hw_up_k _ _ _ hu).trans (hfr u hu)) (md_up2 hb2 (by decide)) (fm_put hzr rfl) V (lv_sub hl [1, 2, 0] rfl)
    exact LP12 (zz_N z + 1) 0 _ _ _ _ (by omega) (Nat.zero_le _) (fun _ _ => rfl) h30 (fun y hy => absurd hy (Nat.not_lt_zero _)) V (lv_sub hl [1, 2, 0] rfl)
  · skip
    have hno : ¬ (σ (20, 0) 6 = 1 ∧ el_i 4 x) := fun h => by have := hbp1.mpr h; omega
    refine nw_iconstv X (-1) d_Mod_spread_8 (by decide) ?_
    exact hret _ _ _ _ _ _ d_Mod_spread_9 V ⟨ms_no hM hno, mq_q.rf, fun h => absurd h hno, fun _ => rfl⟩
set_option maxHeartbeats 4000000 in
set_option maxRecDepth 20000 in
theorem cm_Mod_commute (l : Launch) (z : zz_Z) (σ : hw_M) (hz : ∀ k, zz_k (zz_n z) k → zz_O z k) (r9 w p9 : Nat → Nat) (c9 : Nat → Nat → Nat) (S : Nat → Nat → Prop) (hM : ms_ok z σ r9 w p9 c9 S) (hSl : ∀ s, s < 4 → ∀ v, S s v → v < zz_N z) (x y t : Int32) : Met l y_Mod_commute (hw_c y_Mod_commute b_Mod_commute 6 (some .int)) (hw_r 3) (va_Pc [.ref (zz_A z (20, 0)), .int x, .int y, .int t] (zz_B z σ)) (va_Qi (fun r σ' => ms_ok z σ' r9 w p9 c9 (sa_t (σ (20, 0) 6 = 1 ∧ el_i 4 x ∧ el_i 4 y ∧ el_i 4 t) (el_v t) (gp_cs (zz_N z) (tw_op (zz_n z) r9 w p9 c9 (zz_n z)) (S (el_v x)) (S (el_v y))) S) ∧ mq_q σ σ' ∧ an_o (σ (20, 0) 6 = 1 ∧ el_i 4 x ∧ el_i 4 y ∧ el_i 4 t) (gp_cd (zz_N z) (gp_cs (zz_N z) (tw_op (zz_n z) r9 w p9 c9 (zz_n z)) (S (el_v x)) (S (el_v y)))) r) (zz_B z) (zz_F z)) 0 0 (zz_F z) := by
  refine hw_meti (post := (fun r σ' => ms_ok z σ' r9 w p9 c9 (sa_t (σ (20, 0) 6 = 1 ∧ el_i 4 x ∧ el_i 4 y ∧ el_i 4 t) (el_v t) (gp_cs (zz_N z) (tw_op (zz_n z) r9 w p9 c9 (zz_n z)) (S (el_v x)) (S (el_v y))) S) ∧ mq_q σ σ' ∧ an_o (σ (20, 0) 6 = 1 ∧ el_i 4 x ∧ el_i 4 y ∧ el_i 4 t) (gp_cd (zz_N z) (gp_cs (zz_N z) (tw_op (zz_n z) r9 w p9 c9 (zz_n z)) (S (el_v x)) (S (el_v y)))) r)) (by decide) (Nat.le_of_ble_eq_true rfl) ?_
  intro p e s m args below meth c ls Q X hret V hl
  have hl : lv_has ls 6 [(0, .ref (zz_A z (20, 0))), (1, .int x), (2, .int y), (3, .int t)] := hl
  have hB := V.1.2.2
  obtain ⟨hD, hR, hf2, hfx⟩ := id hM
  obtain ⟨hn7, hN, hn, hNe, h29, h30, h31⟩ := id hD
  obtain ⟨hw, hsz, hri, hcj⟩ := id hR
  refine nw_aload_n X d_Mod_commute_0 rfl (lv_at hl 0 rfl) ?_
  refine nw_iload_n X d_Mod_commute_1 rfl (lv_at hl 1 rfl) ?_
  refine hw_calli X V (hz (20, 0) rfl) rfl rfl (cm_Mod_isPlace l z σ hz hD hf2 x) cs_Mod_101 (by decide) rfl hl.1 rfl (Nat.le_of_ble_eq_true rfl) (by decide) d_Mod_commute_2 (fun r σ' H locs V hr => ?_)
  obtain ⟨b1, hb1, rfl, hσ, hbp1⟩ := hr
  rw [hσ] at V
  clear hσ
  have hB := V.1.2.2
  refine nw_if_eq X (tgt := 24) d_Mod_commute_5 (by decide) (by omega) (fun hc1 => ?_) (fun hc1 => ?_)
  · skip
    have hno : ¬ (σ (20, 0) 6 = 1 ∧ el_i 4 x ∧ el_i 4 y ∧ el_i 4 t) := fun h => by have := hbp1.mpr ⟨h.1, h.2.1⟩; omega
    refine nw_iconstv X (-1) d_Mod_commute_24 (by decide) ?_
    exact hret _ _ _ _ _ _ d_Mod_commute_25 V ⟨ms_no hM hno, mq_q.rf, fun h => absurd h hno, fun _ => rfl⟩
  · skip
    refine nw_aload_n X d_Mod_commute_8 rfl (lv_at hl 0 rfl) ?_
    refine nw_iload_n X d_Mod_commute_9 rfl (lv_at hl 2 rfl) ?_
    refine hw_calli X V (hz (20, 0) rfl) rfl rfl (cm_Mod_isPlace l z σ hz hD hf2 y) cs_Mod_101 (by decide) rfl hl.1 rfl (Nat.le_of_ble_eq_true rfl) (by decide) d_Mod_commute_10 (fun r σ' H locs V hr => ?_)
    obtain ⟨b2, hb2, rfl, hσ, hbp2⟩ := hr
    rw [hσ] at V
    clear hσ
    have hB := V.1.2.2
    refine nw_if_eq X (tgt := 24) d_Mod_commute_13 (by decide) (by omega) (fun hc2 => ?_) (fun hc2 => ?_)
    · skip
      have hno : ¬ (σ (20, 0) 6 = 1 ∧ el_i 4 x ∧ el_i 4 y ∧ el_i 4 t) := fun h => by have := hbp2.mpr ⟨h.1, h.2.2.1⟩; omega
      refine nw_iconstv X (-1) d_Mod_commute_24 (by decide) ?_
      exact hret _ _ _ _ _ _ d_Mod_commute_25 V ⟨ms_no hM hno, mq_q.rf, fun h => absurd h hno, fun _ => rfl⟩
    · skip
      refine nw_aload_n X d_Mod_commute_16 rfl (lv_at hl 0 rfl) ?_
      refine nw_iload_n X d_Mod_commute_17 rfl (lv_at hl 3 rfl) ?_
      refine hw_calli X V (hz (20, 0) rfl) rfl rfl (cm_Mod_isPlace l z σ hz hD hf2 t) cs_Mod_101 (by decide) rfl hl.1 rfl (Nat.le_of_ble_eq_true rfl) (by decide) d_Mod_commute_18 (fun r σ' H locs V hr => ?_)
      obtain ⟨b3, hb3, rfl, hσ, hbp3⟩ := hr
      rw [hσ] at V
      clear hσ
      have hB := V.1.2.2
      refine nw_if_ne X (tgt := 26) d_Mod_commute_21 (by decide) (by omega) (fun hc3 => ?_) (fun hc3 => ?_)
      · skip
        obtain ⟨hf1, s9, hs, rfl⟩ := hbp1.mp (by omega)
        obtain ⟨hk, hg, hpl⟩ := hfx hf1
        have g := hg.1
        have ev : el_v (nI s9) = s9 := el_nv (by omega) hs
        obtain ⟨-, t9, ht9, rfl⟩ := hbp2.mp (by omega)
        obtain ⟨-, u9, hu9, rfl⟩ := hbp3.mp (by omega)
        have ev2 : el_v (nI t9) = t9 := el_nv (by omega) ht9
        have ev3 : el_v (nI u9) = u9 := el_nv (by omega) hu9
        refine nw_iconst X 0 d_Mod_commute_26 (by decide) ?_
        refine nw_istore X (lv' := [(4, _), (0, _), (1, _), (2, _), (3, _)]) d_Mod_commute_27 hl (by decide) rfl (fun ls hl => ?_)
        have LP29 : ∀ (d a : Nat) (σ1 : hw_M) (H : Heap) (locs : List Loc) (ls : Array Slot), zz_N z - a < d → (a ≤ zz_N z) → (∀ u : hw_P, u ≠ (30, 0) → σ1 u = σ u) → (∀ a, σ1 (30, 0) a < 2) → (∀ y, y < a → σ1 (30, 0) y = 0) → zz_V z σ1 s.heap H locs →  lv_has ls 6 [(0, .ref (zz_A z (20, 0))), (1, .int (nI s9)), (2, .int (nI t9)), (3, .int (nI u9)), (4, .int (nI a))] →  W p l e (hw_r 3) s m args below meth c H locs 0 0 Q (F0 m 29 ls []) := by
          intro d
          induction d with
          | zero => intro a σ1 H locs ls hd; exact absurd hd (Nat.not_lt_zero _)
          | succ d IH29 =>
            intro a σ1 H locs ls hd haN hfr hb2 hzr V hl
            have hB := V.1.2.2
            have hNe1 : σ1 (20, 0) 1 = zz_N z := by rw [hfr (20, 0) (hw_ne (by decide))]; exact hNe
            refine nw_iload X d_Mod_commute_29 (lv_at hl 4 rfl) ?_
            refine nw_aload_n X d_Mod_commute_31 rfl (lv_at hl 0 rfl) ?_
            refine gf_Mod_48 X V (hz (20, 0) rfl) d_Mod_commute_32 ?_
            rw [hNe1]
            refine nw_icmp_ge X (tgt := 52) d_Mod_commute_35 (by decide) (by first | assumption | omega) (by first | assumption | omega) (fun ha => ?_) (fun ha => ?_)
            · skip
              refine nw_iconst X 0 d_Mod_commute_52 (by decide) ?_
              refine nw_istore X (lv' := [(4, _), (0, _), (1, _), (2, _), (3, _)]) d_Mod_commute_53 hl (by decide) rfl (fun ls hl => ?_)
              have LP55 : ∀ (d a : Nat) (σ2 : hw_M) (H : Heap) (locs : List Loc) (ls : Array Slot), zz_N z - a < d → (a ≤ zz_N z) → (∀ u : hw_P, u ≠ (30, 0) → σ2 u = σ u) → (∀ a, σ2 (30, 0) a < 2) → (∀ x, x < zz_N z → σ2 (30, 0) x = 1 → (∃ a b, a < zz_N z ∧ b < zz_N z ∧ (S s9 a ∧ S t9 b) ∧ x = gp_cm (zz_N z) (tw_op (zz_n z) r9 w p9 c9 (zz_n z)) a b)) → (∀ a9, a9 < a → ∀ b, b < zz_N z → (S s9 a9 ∧ S t9 b) → σ2 (30, 0) (gp_cm (zz_N z) (tw_op (zz_n z) r9 w p9 c9 (zz_n z)) a9 b) = 1) → zz_V z σ2 s.heap H locs →  lv_has ls 6 [(0, .ref (zz_A z (20, 0))), (1, .int (nI s9)), (2, .int (nI t9)), (3, .int (nI u9)), (4, .int (nI a))] →  W p l e (hw_r 3) s m args below meth c H locs 0 0 Q (F0 m 55 ls []) := by
                intro d
                induction d with
                | zero => intro a σ2 H locs ls hd; exact absurd hd (Nat.not_lt_zero _)
                | succ d IH55 =>
                  intro a σ2 H locs ls hd haN hfr hb2 hY hdn V hl
                  have hB := V.1.2.2
                  have hNe1 : σ2 (20, 0) 1 = zz_N z := by rw [hfr (20, 0) (hw_ne (by decide))]; exact hNe
                  refine nw_iload X d_Mod_commute_55 (lv_at hl 4 rfl) ?_
                  refine nw_aload_n X d_Mod_commute_57 rfl (lv_at hl 0 rfl) ?_
                  refine gf_Mod_48 X V (hz (20, 0) rfl) d_Mod_commute_58 ?_
                  rw [hNe1]
                  refine nw_icmp_ge X (tgt := 134) d_Mod_commute_61 (by decide) (by first | assumption | omega) (by first | assumption | omega) (fun ha => ?_) (fun ha => ?_)
                  · skip
                    have hXq : ∀ x, (x < zz_N z ∧ σ2 (30, 0) x = 1) ↔ (∃ a b, a < zz_N z ∧ b < zz_N z ∧ (S s9 a ∧ S t9 b) ∧ x = gp_cm (zz_N z) (tw_op (zz_n z) r9 w p9 c9 (zz_n z)) a b) := fun x => ⟨fun q => hY x q.1 q.2, fun ⟨a9, b9, h1, h2, h3, h4⟩ => by rw [h4]; exact ⟨(g.cml h1 h2), hdn a9 (by omega) b9 h2 h3⟩⟩
                    have hD2 := md_mv hD hfr hb2
                    have hg2 := mq_g (mq_30 hfr) hg
                    refine nw_aload_n X d_Mod_commute_134 rfl (lv_at hl 0 rfl) ?_
                    refine nw_iload_n X d_Mod_commute_135 rfl (lv_at hl 3 rfl) ?_
                    refine hw_calli X V (hz (20, 0) rfl) rfl rfl (cm_Mod_put l z σ2 hz hD2 _ hg2 u9 hu9) cs_Mod_107 (by decide) rfl hl.1 rfl (Nat.le_of_ble_eq_true rfl) (by decide) d_Mod_commute_136 (fun r σ9 H locs V hr => ?_)
                    obtain ⟨f9, b29, b30, v9, o9, rfl⟩ := hr
                    have hB := V.1.2.2
                    have hq9 : mq_q σ σ9 := fun u a9 b9 c10 => (f9 u a9 b9).trans (hfr u b9)
                    exact hret _ _ _ _ _ _ d_Mod_commute_139 V (by
                      rw [ev, ev2, ev3]
                      have hYS : ∀ x, (∃ a b, a < zz_N z ∧ b < zz_N z ∧ (S s9 a ∧ S t9 b) ∧ x = gp_cm (zz_N z) (tw_op (zz_n z) r9 w p9 c9 (zz_n z)) a b) ↔ ∃ a b, S s9 a ∧ S t9 b ∧ x = gp_cm (zz_N z) (tw_op (zz_n z) r9 w p9 c9 (zz_n z)) a b := fun x => ⟨fun ⟨a, b, h1, h2, h3, h4⟩ => ⟨a, b, h3.1, h3.2, h4⟩, fun ⟨a, b, h1, h2, h3⟩ => ⟨a, b, hSl s9 hs a h1, hSl t9 ht9 b h2, ⟨h1, h2⟩, h3⟩⟩
                      have hJ2 : ∀ x, gp_gn (zz_N z) (tw_op (zz_n z) r9 w p9 c9 (zz_n z)) (fun x => x < zz_N z ∧ σ2 (30, 0) x = 1) x ↔ (gp_cs (zz_N z) (tw_op (zz_n z) r9 w p9 c9 (zz_n z)) (S s9) (S t9)) x := fun x => (gp_gn_ext hXq x).trans (gp_gn_ext hYS x)
                      exact ⟨ms_put hM hf1 hu9 ⟨hf1, ⟨s9, hs, rfl⟩, ⟨t9, ht9, rfl⟩, u9, hu9, rfl⟩ hq9 ⟨b29, b30, by rw [f9 (31, 0) (hw_ne (by decide)) (hw_ne (by decide)), hfr (31, 0) (hw_ne (by decide))]; exact h31⟩ (fun x hx => (v9 x hx).trans (hJ2 x)) (fun i hi => (o9 i hi).trans (by rw [hfr (29, 0) (hw_ne (by decide))])), hq9, fun _ => congrArg nI (gp_cd_congr (fun x _ => hJ2 x)), fun h => absurd ⟨hf1, ⟨s9, hs, rfl⟩, ⟨t9, ht9, rfl⟩, u9, hu9, rfl⟩ h⟩)
                  · skip
                    refine nw_iconst X 0 d_Mod_commute_64 (by decide) ?_
                    refine nw_istore X (lv' := [(5, _), (0, _), (1, _), (2, _), (3, _), (4, _)]) d_Mod_commute_65 hl (by decide) rfl (fun ls hl => ?_)
                    have LP67 : ∀ (d b : Nat) (σ3 : hw_M) (H : Heap) (locs : List Loc) (ls : Array Slot), zz_N z - b < d → (b ≤ zz_N z) → (∀ u : hw_P, u ≠ (30, 0) → σ3 u = σ u) → (∀ a, σ3 (30, 0) a < 2) → (∀ x, x < zz_N z → σ3 (30, 0) x = 1 → (∃ a b, a < zz_N z ∧ b < zz_N z ∧ (S s9 a ∧ S t9 b) ∧ x = gp_cm (zz_N z) (tw_op (zz_n z) r9 w p9 c9 (zz_n z)) a b)) → (∀ a9, a9 < a → ∀ b, b < zz_N z → (S s9 a9 ∧ S t9 b) → σ3 (30, 0) (gp_cm (zz_N z) (tw_op (zz_n z) r9 w p9 c9 (zz_n z)) a9 b) = 1) → (∀ b9, b9 < b → (S s9 a ∧ S t9 b9) → σ3 (30, 0) (gp_cm (zz_N z) (tw_op (zz_n z) r9 w p9 c9 (zz_n z)) a b9) = 1) → zz_V z σ3 s.heap H locs →  lv_has ls 6 [(0, .ref (zz_A z (20, 0))), (1, .int (nI s9)), (2, .int (nI t9)), (3, .int (nI u9)), (4, .int (nI a)), (5, .int (nI b))] →  W p l e (hw_r 3) s m args below meth c H locs 0 0 Q (F0 m 67 ls []) := by
                      intro d
                      induction d with
                      | zero => intro b σ3 H locs ls hd; exact absurd hd (Nat.not_lt_zero _)
                      | succ d IH67 =>
                        intro b σ3 H locs ls hd hbN hfr hb2 hY hdn hrow V hl
                        have hB := V.1.2.2
                        have hNe1 : σ3 (20, 0) 1 = zz_N z := by rw [hfr (20, 0) (hw_ne (by decide))]; exact hNe
                        refine nw_iload X d_Mod_commute_67 (lv_at hl 5 rfl) ?_
                        refine nw_aload_n X d_Mod_commute_69 rfl (lv_at hl 0 rfl) ?_
                        refine gf_Mod_48 X V (hz (20, 0) rfl) d_Mod_commute_70 ?_
                        rw [hNe1]
                        refine nw_icmp_ge X (tgt := 128) d_Mod_commute_73 (by decide) (by first | assumption | omega) (by first | assumption | omega) (fun hb => ?_) (fun hb => ?_)
                        · skip
                          have hrow9 : ∀ b9, b9 < zz_N z → (S s9 a ∧ S t9 b9) → σ3 (30, 0) (gp_cm (zz_N z) (tw_op (zz_n z) r9 w p9 c9 (zz_n z)) a b9) = 1 := fun b9 h1 h2 => hrow b9 (by omega) h2
                          refine nw_iinc X (lv' := [(4, _), (0, _), (1, _), (2, _), (3, _), (5, _)]) (k := 4) 1 d_Mod_commute_128 hl rfl (by decide) (by decide) rfl (fun ls hl => ?_)
                          refine nw_goto X (tgt := 55) d_Mod_commute_131 (by decide) ?_
                          exact IH55 (a + 1) _ _ _ _ (by omega) ha hfr hb2 hY (fun a9 h1 b h2 h3 => by by_cases e : a9 = a; rw [e] at h3 ⊢; exact hrow9 b h2 h3; exact hdn a9 (by omega) b h2 h3) V (lv_sub hl [1, 2, 3, 4, 0] rfl)
                        · skip
                          refine nw_aload_n X d_Mod_commute_76 rfl (lv_at hl 0 rfl) ?_
                          refine gf_Mod_34 X V (hz (20, 0) rfl) d_Mod_commute_77 ?_
                          refine nw_sipush X 128 d_Mod_commute_80 (by decide) ?_
                          refine nw_iload_n X d_Mod_commute_83 rfl (lv_at hl 1 rfl) ?_
                          refine nw_imul X d_Mod_commute_84 ?_
                          refine nw_iload X d_Mod_commute_85 (lv_at hl 4 rfl) ?_
                          refine nw_iadd X d_Mod_commute_87 ?_
                          refine hw_zald X V (hz (29, 0) rfl) 1 rfl rfl (by omega) (by decide) d_Mod_commute_88 ?_
                          rw [hfr (29, 0) (hw_ne (by decide))]
                          refine nw_if_eq X (tgt := 128) d_Mod_commute_89 (by decide) (by rw [← hfr (29, 0) (hw_ne (by decide))]; exact hB _ _) (fun hcq => ?_) (fun hcq => ?_)
                          · skip
                            have hrow9 : ∀ b9, b9 < zz_N z → (S s9 a ∧ S t9 b9) → σ3 (30, 0) (gp_cm (zz_N z) (tw_op (zz_n z) r9 w p9 c9 (zz_n z)) a b9) = 1 := fun b9 h1 h2 => by have := (hpl s9 hs a ha).mpr h2.1; omega
                            refine nw_iinc X (lv' := [(4, _), (0, _), (1, _), (2, _), (3, _), (5, _)]) (k := 4) 1 d_Mod_commute_128 hl rfl (by decide) (by decide) rfl (fun ls hl => ?_)
                            refine nw_goto X (tgt := 55) d_Mod_commute_131 (by decide) ?_
                            exact IH55 (a + 1) _ _ _ _ (by omega) ha hfr hb2 hY (fun a9 h1 b h2 h3 => by by_cases e : a9 = a; rw [e] at h3 ⊢; exact hrow9 b h2 h3; exact hdn a9 (by omega) b h2 h3) V (lv_sub hl [1, 2, 3, 4, 0] rfl)
                          · skip
                            have hca : S s9 a := (hpl s9 hs a ha).mp (by have := h29 (128 * s9 + a); omega)
                            refine nw_aload_n X d_Mod_commute_92 rfl (lv_at hl 0 rfl) ?_
                            refine gf_Mod_34 X V (hz (20, 0) rfl) d_Mod_commute_93 ?_
                            refine nw_sipush X 128 d_Mod_commute_96 (by decide) ?_
                            refine nw_iload_n X d_Mod_commute_99 rfl (lv_at hl 2 rfl) ?_
                            refine nw_imul X d_Mod_commute_100 ?_
                            refine nw_iload X d_Mod_commute_101 (lv_at hl 5 rfl) ?_
                            refine nw_iadd X d_Mod_commute_103 ?_
                            refine hw_zald X V (hz (29, 0) rfl) 1 rfl rfl (by omega) (by decide) d_Mod_commute_104 ?_
                            rw [hfr (29, 0) (hw_ne (by decide))]
                            refine nw_if_eq X (tgt := 122) d_Mod_commute_105 (by decide) (by rw [← hfr (29, 0) (hw_ne (by decide))]; exact hB _ _) (fun hcr => ?_) (fun hcr => ?_)
                            · skip
                              have hcf : ¬ (S s9 a ∧ S t9 b) := fun h => by have := (hpl t9 ht9 b hb).mpr h.2; omega
                              have hfr3 := hfr
                              have hb3 := hb2
                              have hY3 := hY
                              have hdn3 := hdn
                              have hrow3 : ∀ b9, b9 < b + 1 → (S s9 a ∧ S t9 b9) → σ3 (30, 0) (gp_cm (zz_N z) (tw_op (zz_n z) r9 w p9 c9 (zz_n z)) a b9) = 1 := fun b9 h1 h2 => by by_cases e : b9 = b; rw [e] at h2; exact absurd h2 hcf; exact hrow b9 (by omega) h2
                              refine nw_iinc X (lv' := [(5, _), (0, _), (1, _), (2, _), (3, _), (4, _)]) (k := 5) 1 d_Mod_commute_122 hl rfl (by decide) (by decide) rfl (fun ls hl => ?_)
                              refine nw_goto X (tgt := 67) d_Mod_commute_125 (by decide) ?_
                              exact IH67 (b + 1) _ _ _ _ (by omega) hb hfr3 hb3 hY3 hdn3 hrow3 V (lv_sub hl [1, 2, 3, 4, 5, 0] rfl)
                            · skip
                              have hcc : S s9 a ∧ S t9 b := ⟨hca, (hpl t9 ht9 b hb).mp (by have := h29 (128 * t9 + b); omega)⟩
                              have hfl := g.cml ha hb
                              refine nw_aload_n X d_Mod_commute_108 rfl (lv_at hl 0 rfl) ?_
                              refine gf_Mod_38 X V (hz (20, 0) rfl) d_Mod_commute_109 ?_
                              refine nw_aload_n X d_Mod_commute_112 rfl (lv_at hl 0 rfl) ?_
                              refine nw_iload X d_Mod_commute_113 (lv_at hl 4 rfl) ?_
                              refine nw_iload X d_Mod_commute_115 (lv_at hl 5 rfl) ?_
                              refine hw_calli X V (hz (20, 0) rfl) rfl rfl (cm_Mod_bracket l z σ3 hz (md_mv hD hfr hb2) _ (mq_g (mq_30 hfr) hg) a b ha hb) cs_Mod_91 (by decide) rfl hl.1 rfl (Nat.le_of_ble_eq_true rfl) (by decide) d_Mod_commute_117 (fun r σ' H locs V hr => ?_)
                              obtain ⟨hσ, rfl⟩ := hr
                              rw [hσ] at V
                              clear hσ
                              have hB := V.1.2.2
                              refine nw_iconst X 1 d_Mod_commute_120 (by decide) ?_
                              refine hw_zast X V (hz (30, 0) rfl) 1 (fun _ => rfl) rfl (by omega) (by decide) (by decide) d_Mod_commute_121 (fun H locs V => ?_)
                              have hB := V.1.2.2
                              have hfr3 : ∀ u : hw_P, u ≠ (30, 0) → hw_up σ3 (30, 0) (gp_cm (zz_N z) (tw_op (zz_n z) r9 w p9 c9 (zz_n z)) a b) 1 u = σ u := fun u hu => (hw_up_k _ _ _ hu).trans (hfr u hu)
                              have hb3 : ∀ a9, hw_up σ3 (30, 0) (gp_cm (zz_N z) (tw_op (zz_n z) r9 w p9 c9 (zz_n z)) a b) 1 (30, 0) a9 < 2 := md_up2 hb2 (by decide)
                              have hY3 : ∀ x, x < zz_N z → hw_up σ3 (30, 0) (gp_cm (zz_N z) (tw_op (zz_n z) r9 w p9 c9 (zz_n z)) a b) 1 (30, 0) x = 1 → (∃ a b, a < zz_N z ∧ b < zz_N z ∧ (S s9 a ∧ S t9 b) ∧ x = gp_cm (zz_N z) (tw_op (zz_n z) r9 w p9 c9 (zz_n z)) a b) := fun x hx h1 => by rw [hw_up_v] at h1; by_cases e : x = gp_cm (zz_N z) (tw_op (zz_n z) r9 w p9 c9 (zz_n z)) a b; exact ⟨a, b, ha, hb, hcc, e⟩; rw [if_neg e] at h1; exact hY x hx h1
                              have hdn3 : ∀ a9, a9 < a → ∀ b9, b9 < zz_N z → (S s9 a9 ∧ S t9 b9) → hw_up σ3 (30, 0) (gp_cm (zz_N z) (tw_op (zz_n z) r9 w p9 c9 (zz_n z)) a b) 1 (30, 0) (gp_cm (zz_N z) (tw_op (zz_n z) r9 w p9 c9 (zz_n z)) a9 b9) = 1 := fun a9 h1 b9 h2 h3 => md_set1 (hdn a9 h1 b9 h2 h3)
                              have hrow3 : ∀ b9, b9 < b + 1 → (S s9 a ∧ S t9 b9) → hw_up σ3 (30, 0) (gp_cm (zz_N z) (tw_op (zz_n z) r9 w p9 c9 (zz_n z)) a b) 1 (30, 0) (gp_cm (zz_N z) (tw_op (zz_n z) r9 w p9 c9 (zz_n z)) a b9) = 1 := fun b9 h1 h2 => by by_cases e : b9 = b; rw [e]; exact hw_up_s _ _ _ _; exact md_set1 (hrow b9 (by omega) h2)
                              refine nw_iinc X (lv' := [(5, _), (0, _), (1, _), (2, _), (3, _), (4, _)]) (k := 5) 1 d_Mod_commute_122 hl rfl (by decide) (by decide) rfl (fun ls hl => ?_)
                              refine nw_goto X (tgt := 67) d_Mod_commute_125 (by decide) ?_
                              exact IH67 (b + 1) _ _ _ _ (by omega) hb hfr3 hb3 hY3 hdn3 hrow3 V (lv_sub hl [1, 2, 3, 4, 5, 0] rfl)
                    exact LP67 (zz_N z + 1) 0 _ _ _ _ (by omega) (Nat.zero_le _) hfr hb2 hY hdn (fun b9 h => absurd h (Nat.not_lt_zero _)) V (lv_sub hl [1, 2, 3, 4, 5, 0] rfl)
              exact LP55 (zz_N z + 1) 0 _ _ _ _ (by omega) (Nat.zero_le _) hfr hb2 (fun x hx h1 => by rw [hzr x (by omega)] at h1; cases h1) (fun a9 h => absurd h (Nat.not_lt_zero _)) V (lv_sub hl [1, 2, 3, 4, 0] rfl)
            · skip
              refine nw_aload_n X d_Mod_commute_38 rfl (lv_at hl 0 rfl) ?_
              refine gf_Mod_38 X V (hz (20, 0) rfl) d_Mod_commute_39 ?_
              refine nw_iload X d_Mod_commute_42 (lv_at hl 4 rfl) ?_
              refine nw_iconst X 0 d_Mod_commute_44 (by decide) ?_
              refine hw_zast X V (hz (30, 0) rfl) 1 (fun _ => rfl) rfl (by omega) (by decide) (by decide) d_Mod_commute_45 (fun H locs V => ?_)
              refine nw_iinc X (lv' := [(4, _), (0, _), (1, _), (2, _), (3, _)]) (k := 4) 1 d_Mod_commute_46 hl rfl (by decide) (by decide) rfl (fun ls hl => ?_)
              refine nw_goto X (tgt := 29) d_Mod_commute_49 (by decide) ?_
              exact IH29 (a + 1) _ _ _ _ (by omega) ha (fun u hu => (hw_up_k _ _ _ hu).trans (hfr u hu)) (md_up2 hb2 (by decide)) (fm_put hzr rfl) V (lv_sub hl [1, 2, 3, 4, 0] rfl)
        exact LP29 (zz_N z + 1) 0 _ _ _ _ (by omega) (Nat.zero_le _) (fun _ _ => rfl) h30 (fun y hy => absurd hy (Nat.not_lt_zero _)) V (lv_sub hl [1, 2, 3, 4, 0] rfl)
      · skip
        have hno : ¬ (σ (20, 0) 6 = 1 ∧ el_i 4 x ∧ el_i 4 y ∧ el_i 4 t) := fun h => by have := hbp3.mpr ⟨h.1, h.2.2.2⟩; omega
        refine nw_iconstv X (-1) d_Mod_commute_24 (by decide) ?_
        exact hret _ _ _ _ _ _ d_Mod_commute_25 V ⟨ms_no hM hno, mq_q.rf, fun h => absurd h hno, fun _ => rfl⟩
set_option maxHeartbeats 4000000 in
set_option maxRecDepth 20000 in
theorem cm_Mod_least (l : Launch) (z : zz_Z) (σ : hw_M) (hz : ∀ k, zz_k (zz_n z) k → zz_O z k) (hD : md_ok z σ) (o : Nat → Nat → Nat) (hg : mg_ok z σ o) (a : Nat) (ha : a < zz_N z) : Met l y_Mod_least (hw_c y_Mod_least b_Mod_least 5 (some .int)) (hw_r 2) (va_Pc [.ref (zz_A z (20, 0)), .int (nI a)] (zz_B z σ)) (va_Qi (fun r σ' => σ' = σ ∧ ∃ v, r = nI v ∧ sp_head (zz_N z) o a v) (zz_B z) (zz_F z)) 0 0 (zz_F z) := by
  refine hw_meti (post := (fun r σ' => σ' = σ ∧ ∃ v, r = nI v ∧ sp_head (zz_N z) o a v)) (by decide) (Nat.le_of_ble_eq_true rfl) ?_
  intro p e s m args below meth c ls Q X hret V hl
  have hl : lv_has ls 5 [(0, .ref (zz_A z (20, 0))), (1, .int (nI a))] := hl
  have hB := V.1.2.2
  obtain ⟨hn7, hN, hn, hNe, h29, h30, h31⟩ := id hD
  have g := hg.1
  refine nw_iload_n X d_Mod_least_0 rfl (lv_at hl 1 rfl) ?_
  refine nw_istore_n X (lv' := [(2, _), (0, _), (1, _)]) d_Mod_least_1 rfl hl (by decide) rfl (fun ls hl => ?_)
  refine nw_iconst X 0 d_Mod_least_2 (by decide) ?_
  refine nw_istore_n X (lv' := [(3, _), (2, _), (0, _), (1, _)]) d_Mod_least_3 rfl hl (by decide) rfl (fun ls hl => ?_)
  have LP4 : ∀ (d b v : Nat) (H : Heap) (locs : List Loc) (ls : Array Slot), zz_N z - b < d → (b ≤ zz_N z) → (sp_kin (zz_N z) o a v) → (∀ b9, b9 < b → v ≤ gp_cj (zz_N z) o a b9) → (v < zz_N z) → zz_V z σ s.heap H locs →  lv_has ls 5 [(0, .ref (zz_A z (20, 0))), (1, .int (nI a)), (2, .int (nI v)), (3, .int (nI b))] →  W p l e (hw_r 2) s m args below meth c H locs 0 0 Q (F0 m 4 ls []) := by
    intro d
    induction d with
    | zero => intro b v H locs ls hd; exact absurd hd (Nat.not_lt_zero _)
    | succ d IH4 =>
      intro b v H locs ls hd hbN hv1 hv2 hvN V hl
      have hB := V.1.2.2
      refine nw_iload_n X d_Mod_least_4 rfl (lv_at hl 3 rfl) ?_
      refine nw_aload_n X d_Mod_least_5 rfl (lv_at hl 0 rfl) ?_
      refine gf_Mod_48 X V (hz (20, 0) rfl) d_Mod_least_6 ?_
      rw [hNe]
      refine nw_icmp_ge X (tgt := 39) d_Mod_least_9 (by decide) (by first | assumption | omega) (by first | assumption | omega) (fun hb => ?_) (fun hb => ?_)
      · skip
        refine nw_iload_n X d_Mod_least_39 rfl (lv_at hl 2 rfl) ?_
        exact hret _ _ _ _ _ _ d_Mod_least_40 V ⟨rfl, v, rfl, hv1, fun y hy => by obtain ⟨b9, h1, rfl⟩ := hy; exact hv2 b9 (by omega)⟩
      · skip
        have hcl := g.cjl ha hb
        refine nw_aload_n X d_Mod_least_12 rfl (lv_at hl 0 rfl) ?_
        refine nw_iload_n X d_Mod_least_13 rfl (lv_at hl 1 rfl) ?_
        refine nw_iload_n X d_Mod_least_14 rfl (lv_at hl 3 rfl) ?_
        refine hw_calli X V (hz (20, 0) rfl) rfl rfl (cm_Mod_by l z σ hz hD o hg a b ha hb) cs_Mod_88 (by decide) rfl hl.1 rfl (Nat.le_of_ble_eq_true rfl) (by decide) d_Mod_least_15 (fun r σ' H locs V hr => ?_)
        obtain ⟨hσ, rfl⟩ := hr
        rw [hσ] at V
        clear hσ
        have hB := V.1.2.2
        refine nw_istore X (lv' := [(4, _), (0, _), (1, _), (2, _), (3, _)]) d_Mod_least_18 hl (by decide) rfl (fun ls hl => ?_)
        refine nw_iload X d_Mod_least_20 (lv_at hl 0 rfl) ?_
        refine nw_iload_n X d_Mod_least_22 rfl (lv_at hl 3 rfl) ?_
        refine nw_icmp_ge X (tgt := 31) d_Mod_least_23 (by decide) (by omega) (by omega) (fun hcv => ?_) (fun hcv => ?_)
        · skip
          have hk1 := hv1
          have hk2 : ∀ b9, b9 < b + 1 → v ≤ gp_cj (zz_N z) o a b9 := fun b9 h => by by_cases e : b9 = b; rw [e]; exact hcv; exact hv2 b9 (by omega)
          have hk3 := hvN
          refine nw_iload_n X d_Mod_least_31 rfl (lv_at hl 3 rfl) ?_
          refine nw_istore_n X (lv' := [(2, _), (4, _), (0, _), (1, _), (3, _)]) d_Mod_least_32 rfl hl (by decide) rfl (fun ls hl => ?_)
          refine nw_iinc X (lv' := [(3, _), (2, _), (4, _), (0, _), (1, _)]) (k := 4) 1 d_Mod_least_33 hl rfl (by decide) (by decide) rfl (fun ls hl => ?_)
          refine nw_goto X (tgt := 4) d_Mod_least_36 (by decide) ?_
          exact IH4 (b + 1) _ _ _ _ (by omega) hb hk1 hk2 hk3 V (lv_sub hl [3, 4, 1, 0] rfl)
        · skip
          have hk1 : sp_kin (zz_N z) o a (gp_cj (zz_N z) o a b) := ⟨b, hb, rfl⟩
          have hk2 : ∀ b9, b9 < b + 1 → gp_cj (zz_N z) o a b ≤ gp_cj (zz_N z) o a b9 := fun b9 h => by by_cases e : b9 = b; rw [e]; exact Nat.le_refl _; have := hv2 b9 (by omega); omega
          have hk3 := hcl
          refine nw_iload X d_Mod_least_26 (lv_at hl 0 rfl) ?_
          refine nw_goto X (tgt := 32) d_Mod_least_28 (by decide) ?_
          refine nw_istore_n X (lv' := [(2, _), (4, _), (0, _), (1, _), (3, _)]) d_Mod_least_32 rfl hl (by decide) rfl (fun ls hl => ?_)
          refine nw_iinc X (lv' := [(3, _), (2, _), (4, _), (0, _), (1, _)]) (k := 4) 1 d_Mod_least_33 hl rfl (by decide) (by decide) rfl (fun ls hl => ?_)
          refine nw_goto X (tgt := 4) d_Mod_least_36 (by decide) ?_
          exact IH4 (b + 1) _ _ _ _ (by omega) hb hk1 hk2 hk3 V (lv_sub hl [3, 4, 1, 0] rfl)
  exact LP4 (zz_N z + 1) 0 a _ _ _ (by omega) (Nat.zero_le _) ⟨0, g.pos, (g.cj0 ha).symm⟩ (fun b9 h => absurd h (Nat.not_lt_zero _)) ha V (lv_sub hl [2, 3, 1, 0] rfl)
set_option maxHeartbeats 4000000 in
set_option maxRecDepth 20000 in
theorem cm_Mod_relatives (l : Launch) (z : zz_Z) (σ : hw_M) (hz : ∀ k, zz_k (zz_n z) k → zz_O z k) (hD : md_ok z σ) (o : Nat → Nat → Nat) (hg : mg_ok z σ o) (a : Nat) (ha : a < zz_N z) : Met l y_Mod_relatives (hw_c y_Mod_relatives b_Mod_relatives 3 (some .int)) (hw_r 2) (va_Pc [.ref (zz_A z (20, 0)), .int (nI a)] (zz_B z σ)) (va_Qi (fun r σ' => (∀ u : hw_P, u ≠ (30, 0) → σ' u = σ u) ∧ (∀ a, σ' (30, 0) a < 2) ∧ r = nI (gp_cd (zz_N z) (sp_kin (zz_N z) o a))) (zz_B z) (zz_F z)) 0 0 (zz_F z) := by
  refine hw_meti (post := (fun r σ' => (∀ u : hw_P, u ≠ (30, 0) → σ' u = σ u) ∧ (∀ a, σ' (30, 0) a < 2) ∧ r = nI (gp_cd (zz_N z) (sp_kin (zz_N z) o a)))) (by decide) (Nat.le_of_ble_eq_true rfl) ?_
  intro p e s m args below meth c ls Q X hret V hl
  have hl : lv_has ls 3 [(0, .ref (zz_A z (20, 0))), (1, .int (nI a))] := hl
  have hB := V.1.2.2
  obtain ⟨hn7, hN, hn, hNe, h29, h30, h31⟩ := id hD
  have g := hg.1
  refine nw_iconst X 0 d_Mod_relatives_0 (by decide) ?_
  refine nw_istore_n X (lv' := [(2, _), (0, _), (1, _)]) d_Mod_relatives_1 rfl hl (by decide) rfl (fun ls hl => ?_)
  have LP2 : ∀ (d b : Nat) (σ1 : hw_M) (H : Heap) (locs : List Loc) (ls : Array Slot), zz_N z - b < d → (b ≤ zz_N z) → (∀ u : hw_P, u ≠ (30, 0) → σ1 u = σ u) → (∀ a, σ1 (30, 0) a < 2) → (∀ y, y < b → σ1 (30, 0) y = 0) → zz_V z σ1 s.heap H locs →  lv_has ls 3 [(0, .ref (zz_A z (20, 0))), (1, .int (nI a)), (2, .int (nI b))] →  W p l e (hw_r 2) s m args below meth c H locs 0 0 Q (F0 m 2 ls []) := by
    intro d
    induction d with
    | zero => intro b σ1 H locs ls hd; exact absurd hd (Nat.not_lt_zero _)
    | succ d IH2 =>
      intro b σ1 H locs ls hd hbN hfr hb2 hzr V hl
      have hB := V.1.2.2
      have hNe1 : σ1 (20, 0) 1 = zz_N z := by rw [hfr (20, 0) (hw_ne (by decide))]; exact hNe
      refine nw_iload_n X d_Mod_relatives_2 rfl (lv_at hl 2 rfl) ?_
      refine nw_aload_n X d_Mod_relatives_3 rfl (lv_at hl 0 rfl) ?_
      refine gf_Mod_48 X V (hz (20, 0) rfl) d_Mod_relatives_4 ?_
      rw [hNe1]
      refine nw_icmp_ge X (tgt := 23) d_Mod_relatives_7 (by decide) (by first | assumption | omega) (by first | assumption | omega) (fun hb => ?_) (fun hb => ?_)
      · skip
        refine nw_iconst X 0 d_Mod_relatives_23 (by decide) ?_
        refine nw_istore_n X (lv' := [(2, _), (0, _), (1, _)]) d_Mod_relatives_24 rfl hl (by decide) rfl (fun ls hl => ?_)
        have LP25 : ∀ (d b : Nat) (σ2 : hw_M) (H : Heap) (locs : List Loc) (ls : Array Slot), zz_N z - b < d → (b ≤ zz_N z) → (∀ u : hw_P, u ≠ (30, 0) → σ2 u = σ u) → (∀ a, σ2 (30, 0) a < 2) → (∀ x, x < zz_N z → σ2 (30, 0) x = 1 → sp_kin (zz_N z) o a x) → (∀ b9, b9 < b → σ2 (30, 0) (gp_cj (zz_N z) o a b9) = 1) → zz_V z σ2 s.heap H locs →  lv_has ls 3 [(0, .ref (zz_A z (20, 0))), (1, .int (nI a)), (2, .int (nI b))] →  W p l e (hw_r 2) s m args below meth c H locs 0 0 Q (F0 m 25 ls []) := by
          intro d
          induction d with
          | zero => intro b σ2 H locs ls hd; exact absurd hd (Nat.not_lt_zero _)
          | succ d IH25 =>
            intro b σ2 H locs ls hd hbN hfr hb2 hY hdn V hl
            have hB := V.1.2.2
            have hNe1 : σ2 (20, 0) 1 = zz_N z := by rw [hfr (20, 0) (hw_ne (by decide))]; exact hNe
            refine nw_iload_n X d_Mod_relatives_25 rfl (lv_at hl 2 rfl) ?_
            refine nw_aload_n X d_Mod_relatives_26 rfl (lv_at hl 0 rfl) ?_
            refine gf_Mod_48 X V (hz (20, 0) rfl) d_Mod_relatives_27 ?_
            rw [hNe1]
            refine nw_icmp_ge X (tgt := 51) d_Mod_relatives_30 (by decide) (by first | assumption | omega) (by first | assumption | omega) (fun hb => ?_) (fun hb => ?_)
            · skip
              refine nw_aload_n X d_Mod_relatives_51 rfl (lv_at hl 0 rfl) ?_
              refine hw_calli X V (hz (20, 0) rfl) rfl rfl (cm_Mod_worked l z σ2 hz (md_mv hD hfr hb2)) cs_Mod_94 (by decide) rfl hl.1 rfl (Nat.le_of_ble_eq_true rfl) (by decide) d_Mod_relatives_52 (fun r σ' H locs V hr => ?_)
              obtain ⟨hσ, rfl⟩ := hr
              rw [hσ] at V
              clear hσ
              have hB := V.1.2.2
              exact hret _ _ _ _ _ _ d_Mod_relatives_55 V ⟨hfr, hb2, congrArg nI (gp_cd_congr (fun x hx => ⟨hY x hx, fun ⟨b9, h1, h2⟩ => by rw [h2]; exact hdn b9 (by omega)⟩))⟩
            · skip
              have hcl := g.cjl ha hb
              refine nw_aload_n X d_Mod_relatives_33 rfl (lv_at hl 0 rfl) ?_
              refine gf_Mod_38 X V (hz (20, 0) rfl) d_Mod_relatives_34 ?_
              refine nw_aload_n X d_Mod_relatives_37 rfl (lv_at hl 0 rfl) ?_
              refine nw_iload_n X d_Mod_relatives_38 rfl (lv_at hl 1 rfl) ?_
              refine nw_iload_n X d_Mod_relatives_39 rfl (lv_at hl 2 rfl) ?_
              refine hw_calli X V (hz (20, 0) rfl) rfl rfl (cm_Mod_by l z σ2 hz (md_mv hD hfr hb2) o (mq_g (mq_30 hfr) hg) a b ha hb) cs_Mod_88 (by decide) rfl hl.1 rfl (Nat.le_of_ble_eq_true rfl) (by decide) d_Mod_relatives_40 (fun r σ' H locs V hr => ?_)
              obtain ⟨hσ, rfl⟩ := hr
              rw [hσ] at V
              clear hσ
              have hB := V.1.2.2
              refine nw_iconst X 1 d_Mod_relatives_43 (by decide) ?_
              refine hw_zast X V (hz (30, 0) rfl) 1 (fun _ => rfl) rfl (by omega) (by decide) (by decide) d_Mod_relatives_44 (fun H locs V => ?_)
              refine nw_iinc X (lv' := [(2, _), (0, _), (1, _)]) (k := 2) 1 d_Mod_relatives_45 hl rfl (by decide) (by decide) rfl (fun ls hl => ?_)
              refine nw_goto X (tgt := 25) d_Mod_relatives_48 (by decide) ?_
              exact IH25 (b + 1) _ _ _ _ (by omega) hb (fun u hu => (hw_up_k _ _ _ hu).trans (hfr u hu)) (md_up2 hb2 (by decide)) (fun x hx h1 => by rw [hw_up_v] at h1; by_cases e : x = gp_cj (zz_N z) o a b; exact ⟨b, hb, e⟩; rw [if_neg e] at h1; exact hY x hx h1) (fun b9 h1 => by by_cases e : b9 = b; rw [e]; exact hw_up_s _ _ _ _; exact md_set1 (hdn b9 (by omega))) V (lv_sub hl [1, 2, 0] rfl)
        exact LP25 (zz_N z + 1) 0 _ _ _ _ (by omega) (Nat.zero_le _) hfr hb2 (fun x hx h1 => by rw [hzr x (by omega)] at h1; cases h1) (fun b9 h => absurd h (Nat.not_lt_zero _)) V (lv_sub hl [1, 2, 0] rfl)
      · skip
        refine nw_aload_n X d_Mod_relatives_10 rfl (lv_at hl 0 rfl) ?_
        refine gf_Mod_38 X V (hz (20, 0) rfl) d_Mod_relatives_11 ?_
        refine nw_iload_n X d_Mod_relatives_14 rfl (lv_at hl 2 rfl) ?_
        refine nw_iconst X 0 d_Mod_relatives_15 (by decide) ?_
        refine hw_zast X V (hz (30, 0) rfl) 1 (fun _ => rfl) rfl (by omega) (by decide) (by decide) d_Mod_relatives_16 (fun H locs V => ?_)
        refine nw_iinc X (lv' := [(2, _), (0, _), (1, _)]) (k := 2) 1 d_Mod_relatives_17 hl rfl (by decide) (by decide) rfl (fun ls hl => ?_)
        refine nw_goto X (tgt := 2) d_Mod_relatives_20 (by decide) ?_
        exact IH2 (b + 1) _ _ _ _ (by omega) hb (fun u hu => (hw_up_k _ _ _ hu).trans (hfr u hu)) (md_up2 hb2 (by decide)) (fm_put hzr rfl) V (lv_sub hl [1, 2, 0] rfl)
  exact LP2 (zz_N z + 1) 0 _ _ _ _ (by omega) (Nat.zero_le _) (fun _ _ => rfl) h30 (fun y hy => absurd hy (Nat.not_lt_zero _)) V (lv_sub hl [1, 2, 0] rfl)
set_option maxHeartbeats 4000000 in
set_option maxRecDepth 20000 in
theorem cm_Mod_centre (l : Launch) (z : zz_Z) (σ : hw_M) (hz : ∀ k, zz_k (zz_n z) k → zz_O z k) (r9 w p9 : Nat → Nat) (c9 : Nat → Nat → Nat) (S : Nat → Nat → Prop) (hM : ms_ok z σ r9 w p9 c9 S) : Met l y_Mod_centre (hw_c y_Mod_centre b_Mod_centre 5 (some .int)) (hw_r 1) (va_Pc [.ref (zz_A z (20, 0))] (zz_B z σ)) (va_Qi (fun r σ' => σ' = σ ∧ an_o (σ (20, 0) 6 = 1) (gp_cd (zz_N z) (sp_central (zz_N z) (tw_op (zz_n z) r9 w p9 c9 (zz_n z)))) r) (zz_B z) (zz_F z)) 0 0 (zz_F z) := by
  refine hw_meti (post := (fun r σ' => σ' = σ ∧ an_o (σ (20, 0) 6 = 1) (gp_cd (zz_N z) (sp_central (zz_N z) (tw_op (zz_n z) r9 w p9 c9 (zz_n z)))) r)) (by decide) (Nat.le_of_ble_eq_true rfl) ?_
  intro p e s m args below meth c ls Q X hret V hl
  have hl : lv_has ls 5 [(0, .ref (zz_A z (20, 0)))] := hl
  have hB := V.1.2.2
  obtain ⟨hD, hR, hf2, hfx⟩ := id hM
  obtain ⟨hn7, hN, hn, hNe, h29, h30, h31⟩ := id hD
  obtain ⟨hw, hsz, hri, hcj⟩ := id hR
  refine nw_aload_n X d_Mod_centre_0 rfl (lv_at hl 0 rfl) ?_
  refine gf_Mod_55 X V (hz (20, 0) rfl) d_Mod_centre_1 ?_
  refine nw_if_ne X (tgt := 9) d_Mod_centre_4 (by decide) (by omega) (fun hc0 => ?_) (fun hc0 => ?_)
  · skip
    have hf1 : σ (20, 0) 6 = 1 := by omega
    obtain ⟨hk, hg, hpl⟩ := hfx hf1
    have g := hg.1
    refine nw_iconst X 0 d_Mod_centre_9 (by decide) ?_
    refine nw_istore_n X (lv' := [(1, _), (0, _)]) d_Mod_centre_10 rfl hl (by decide) rfl (fun ls hl => ?_)
    refine nw_iconst X 0 d_Mod_centre_11 (by decide) ?_
    refine nw_istore_n X (lv' := [(2, _), (1, _), (0, _)]) d_Mod_centre_12 rfl hl (by decide) rfl (fun ls hl => ?_)
    have LP13 : ∀ (d a n9 : Nat) (H : Heap) (locs : List Loc) (ls : Array Slot), zz_N z - a < d → (a ≤ zz_N z) → (n9 = gp_cd a (sp_central (zz_N z) (tw_op (zz_n z) r9 w p9 c9 (zz_n z)))) → zz_V z σ s.heap H locs →  lv_has ls 5 [(0, .ref (zz_A z (20, 0))), (1, .int (nI n9)), (2, .int (nI a))] →  W p l e (hw_r 1) s m args below meth c H locs 0 0 Q (F0 m 13 ls []) := by
      intro d
      induction d with
      | zero => intro a n9 H locs ls hd; exact absurd hd (Nat.not_lt_zero _)
      | succ d IH13 =>
        intro a n9 H locs ls hd haN hcnt V hl
        have hB := V.1.2.2
        refine nw_iload_n X d_Mod_centre_13 rfl (lv_at hl 2 rfl) ?_
        refine nw_aload_n X d_Mod_centre_14 rfl (lv_at hl 0 rfl) ?_
        refine gf_Mod_48 X V (hz (20, 0) rfl) d_Mod_centre_15 ?_
        rw [hNe]
        refine nw_icmp_ge X (tgt := 86) d_Mod_centre_18 (by decide) (by first | assumption | omega) (by first | assumption | omega) (fun ha => ?_) (fun ha => ?_)
        · skip
          refine nw_iload_n X d_Mod_centre_86 rfl (lv_at hl 1 rfl) ?_
          exact hret _ _ _ _ _ _ d_Mod_centre_87 V ⟨rfl, fun _ => by rw [hcnt, show a = zz_N z by omega], fun h => absurd hf1 h⟩
        · skip
          refine nw_iconst X 1 d_Mod_centre_21 (by decide) ?_
          refine nw_istore_n X (lv' := [(3, _), (0, _), (1, _), (2, _)]) d_Mod_centre_22 rfl hl (by decide) rfl (fun ls hl => ?_)
          refine nw_iconst X 0 d_Mod_centre_23 (by decide) ?_
          refine nw_istore X (lv' := [(4, _), (3, _), (0, _), (1, _), (2, _)]) d_Mod_centre_24 hl (by decide) rfl (fun ls hl => ?_)
          have LP26 : ∀ (d b st : Nat) (H : Heap) (locs : List Loc) (ls : Array Slot), zz_N z - b < d → (b ≤ zz_N z) → (st < 2) → (st = 1 ↔ ∀ b9, b9 < b → (tw_op (zz_n z) r9 w p9 c9 (zz_n z)) a b9 = (tw_op (zz_n z) r9 w p9 c9 (zz_n z)) b9 a) → zz_V z σ s.heap H locs →  lv_has ls 5 [(0, .ref (zz_A z (20, 0))), (1, .int (nI n9)), (2, .int (nI a)), (3, .int (nI st)), (4, .int (nI b))] →  W p l e (hw_r 1) s m args below meth c H locs 0 0 Q (F0 m 26 ls []) := by
            intro d
            induction d with
            | zero => intro b st H locs ls hd; exact absurd hd (Nat.not_lt_zero _)
            | succ d IH26 =>
              intro b st H locs ls hd hbN hst hsq V hl
              have hB := V.1.2.2
              refine nw_iload X d_Mod_centre_26 (lv_at hl 4 rfl) ?_
              refine nw_aload_n X d_Mod_centre_28 rfl (lv_at hl 0 rfl) ?_
              refine gf_Mod_48 X V (hz (20, 0) rfl) d_Mod_centre_29 ?_
              rw [hNe]
              refine nw_icmp_ge X (tgt := 68) d_Mod_centre_32 (by decide) (by first | assumption | omega) (by first | assumption | omega) (fun hb => ?_) (fun hb => ?_)
              · skip
                have hcs : st = 1 ↔ sp_central (zz_N z) (tw_op (zz_n z) r9 w p9 c9 (zz_n z)) a := ⟨fun h b9 h9 => hsq.mp h b9 (by omega), fun h => hsq.mpr (fun b9 h9 => h b9 (by omega))⟩
                refine nw_iload_n X d_Mod_centre_68 rfl (lv_at hl 3 rfl) ?_
                refine nw_if_eq X (tgt := 78) d_Mod_centre_69 (by decide) (by omega) (fun hsx => ?_) (fun hsx => ?_)
                · skip
                  have hcnt2 : n9 = gp_cd (a + 1) (sp_central (zz_N z) (tw_op (zz_n z) r9 w p9 c9 (zz_n z))) := by rw [(gp_cd_succ a).2 (fun h => by have := hcs.mpr h; omega)]; exact hcnt
                  refine nw_iload_n X d_Mod_centre_78 rfl (lv_at hl 1 rfl) ?_
                  refine nw_istore_n X (lv' := [(1, _), (0, _), (2, _), (3, _), (4, _)]) d_Mod_centre_79 rfl hl (by decide) rfl (fun ls hl => ?_)
                  refine nw_iinc X (lv' := [(2, _), (1, _), (0, _), (3, _), (4, _)]) (k := 2) 1 d_Mod_centre_80 hl rfl (by decide) (by decide) rfl (fun ls hl => ?_)
                  refine nw_goto X (tgt := 13) d_Mod_centre_83 (by decide) ?_
                  exact IH13 (a + 1) _ _ _ _ (by omega) ha hcnt2 V (lv_sub hl [2, 1, 0] rfl)
                · skip
                  have hcnt2 : n9 + 1 = gp_cd (a + 1) (sp_central (zz_N z) (tw_op (zz_n z) r9 w p9 c9 (zz_n z))) := by rw [(gp_cd_succ a).1 (hcs.mp (by omega)), hcnt]
                  refine nw_iload_n X d_Mod_centre_72 rfl (lv_at hl 1 rfl) ?_
                  refine nw_iconst X 1 d_Mod_centre_73 (by decide) ?_
                  refine nw_iadd X d_Mod_centre_74 ?_
                  refine nw_goto X (tgt := 79) d_Mod_centre_75 (by decide) ?_
                  refine nw_istore_n X (lv' := [(1, _), (0, _), (2, _), (3, _), (4, _)]) d_Mod_centre_79 rfl hl (by decide) rfl (fun ls hl => ?_)
                  refine nw_iinc X (lv' := [(2, _), (1, _), (0, _), (3, _), (4, _)]) (k := 2) 1 d_Mod_centre_80 hl rfl (by decide) (by decide) rfl (fun ls hl => ?_)
                  refine nw_goto X (tgt := 13) d_Mod_centre_83 (by decide) ?_
                  exact IH13 (a + 1) _ _ _ _ (by omega) ha hcnt2 V (lv_sub hl [2, 1, 0] rfl)
              · skip
                refine nw_iload_n X d_Mod_centre_35 rfl (lv_at hl 3 rfl) ?_
                refine nw_if_eq X (tgt := 60) d_Mod_centre_36 (by decide) (by omega) (fun hst0 => ?_) (fun hst0 => ?_)
                · skip
                  have hs2 : 0 < 2 := by decide
                  have hq2 : 0 = 1 ↔ ∀ b9, b9 < b + 1 → (tw_op (zz_n z) r9 w p9 c9 (zz_n z)) a b9 = (tw_op (zz_n z) r9 w p9 c9 (zz_n z)) b9 a := ⟨fun q => absurd q (by decide), fun q => by have := hsq.mpr (fun b9 h => q b9 (by omega)); omega⟩
                  refine nw_iconst X 0 d_Mod_centre_60 (by decide) ?_
                  refine nw_istore_n X (lv' := [(3, _), (0, _), (1, _), (2, _), (4, _)]) d_Mod_centre_61 rfl hl (by decide) rfl (fun ls hl => ?_)
                  refine nw_iinc X (lv' := [(4, _), (3, _), (0, _), (1, _), (2, _)]) (k := 4) 1 d_Mod_centre_62 hl rfl (by decide) (by decide) rfl (fun ls hl => ?_)
                  refine nw_goto X (tgt := 26) d_Mod_centre_65 (by decide) ?_
                  exact IH26 (b + 1) _ _ _ _ (by omega) hb hs2 hq2 V (lv_sub hl [2, 3, 4, 1, 0] rfl)
                · skip
                  refine nw_aload_n X d_Mod_centre_39 rfl (lv_at hl 0 rfl) ?_
                  refine nw_iload_n X d_Mod_centre_40 rfl (lv_at hl 2 rfl) ?_
                  refine nw_iload X d_Mod_centre_41 (lv_at hl 4 rfl) ?_
                  refine hw_calli X V (hz (20, 0) rfl) rfl rfl (cm_Mod_of l z σ hz a b (by omega) (by omega)) cs_Mod_59 (by decide) rfl hl.1 rfl (Nat.le_of_ble_eq_true rfl) (by decide) d_Mod_centre_43 (fun r σ' H locs V hr => ?_)
                  obtain ⟨hσ, rfl⟩ := hr
                  rw [hσ] at V
                  clear hσ
                  have hB := V.1.2.2
                  rw [hg.2.1 _ _ ha hb]
                  refine nw_aload_n X d_Mod_centre_46 rfl (lv_at hl 0 rfl) ?_
                  refine nw_iload X d_Mod_centre_47 (lv_at hl 4 rfl) ?_
                  refine nw_iload_n X d_Mod_centre_49 rfl (lv_at hl 2 rfl) ?_
                  refine hw_calli X V (hz (20, 0) rfl) rfl rfl (cm_Mod_of l z σ hz b a (by omega) (by omega)) cs_Mod_59 (by decide) rfl hl.1 rfl (Nat.le_of_ble_eq_true rfl) (by decide) d_Mod_centre_50 (fun r σ' H locs V hr => ?_)
                  obtain ⟨hσ, rfl⟩ := hr
                  rw [hσ] at V
                  clear hσ
                  have hB := V.1.2.2
                  rw [hg.2.1 _ _ hb ha]
                  refine nw_icmp_ne X (tgt := 60) d_Mod_centre_53 (by decide) (by have := g.lt ha hb; omega) (by have := g.lt hb ha; omega) (fun hne => ?_) (fun hne => ?_)
                  · skip
                    have hs2 : 0 < 2 := by decide
                    have hq2 : 0 = 1 ↔ ∀ b9, b9 < b + 1 → (tw_op (zz_n z) r9 w p9 c9 (zz_n z)) a b9 = (tw_op (zz_n z) r9 w p9 c9 (zz_n z)) b9 a := ⟨fun q => absurd q (by decide), fun q => absurd (q b (by omega)) hne⟩
                    refine nw_iconst X 0 d_Mod_centre_60 (by decide) ?_
                    refine nw_istore_n X (lv' := [(3, _), (0, _), (1, _), (2, _), (4, _)]) d_Mod_centre_61 rfl hl (by decide) rfl (fun ls hl => ?_)
                    refine nw_iinc X (lv' := [(4, _), (3, _), (0, _), (1, _), (2, _)]) (k := 4) 1 d_Mod_centre_62 hl rfl (by decide) (by decide) rfl (fun ls hl => ?_)
                    refine nw_goto X (tgt := 26) d_Mod_centre_65 (by decide) ?_
                    exact IH26 (b + 1) _ _ _ _ (by omega) hb hs2 hq2 V (lv_sub hl [2, 3, 4, 1, 0] rfl)
                  · skip
                    have hs2 : 1 < 2 := by decide
                    have hq2 : 1 = 1 ↔ ∀ b9, b9 < b + 1 → (tw_op (zz_n z) r9 w p9 c9 (zz_n z)) a b9 = (tw_op (zz_n z) r9 w p9 c9 (zz_n z)) b9 a := ⟨fun _ b9 h9 => by by_cases e : b9 = b; rw [e]; exact hne; exact hsq.mp (by omega) b9 (by omega), fun _ => rfl⟩
                    refine nw_iconst X 1 d_Mod_centre_56 (by decide) ?_
                    refine nw_goto X (tgt := 61) d_Mod_centre_57 (by decide) ?_
                    refine nw_istore_n X (lv' := [(3, _), (0, _), (1, _), (2, _), (4, _)]) d_Mod_centre_61 rfl hl (by decide) rfl (fun ls hl => ?_)
                    refine nw_iinc X (lv' := [(4, _), (3, _), (0, _), (1, _), (2, _)]) (k := 4) 1 d_Mod_centre_62 hl rfl (by decide) (by decide) rfl (fun ls hl => ?_)
                    refine nw_goto X (tgt := 26) d_Mod_centre_65 (by decide) ?_
                    exact IH26 (b + 1) _ _ _ _ (by omega) hb hs2 hq2 V (lv_sub hl [2, 3, 4, 1, 0] rfl)
          exact LP26 (zz_N z + 1) 0 1 _ _ _ (by omega) (Nat.zero_le _) (by decide) ⟨fun _ b9 h => absurd h (Nat.not_lt_zero _), fun _ => rfl⟩ V (lv_sub hl [2, 3, 4, 1, 0] rfl)
    exact LP13 (zz_N z + 1) 0 0 _ _ _ (by omega) (Nat.zero_le _) rfl V (lv_sub hl [2, 1, 0] rfl)
  · skip
    refine nw_iconstv X (-1) d_Mod_centre_7 (by decide) ?_
    exact hret _ _ _ _ _ _ d_Mod_centre_8 V ⟨rfl, fun h => by omega, fun _ => rfl⟩
set_option maxHeartbeats 4000000 in
set_option maxRecDepth 20000 in
theorem cm_Mod_classes (l : Launch) (z : zz_Z) (σ : hw_M) (hz : ∀ k, zz_k (zz_n z) k → zz_O z k) (r9 w p9 : Nat → Nat) (c9 : Nat → Nat → Nat) (S : Nat → Nat → Prop) (hM : ms_ok z σ r9 w p9 c9 S) : Met l y_Mod_classes (hw_c y_Mod_classes b_Mod_classes 3 (some .int)) (hw_r 3) (va_Pc [.ref (zz_A z (20, 0))] (zz_B z σ)) (va_Qi (fun r σ' => σ' = σ ∧ an_o (σ (20, 0) 6 = 1) (gp_cd (zz_N z) (sp_least (zz_N z) (tw_op (zz_n z) r9 w p9 c9 (zz_n z)))) r) (zz_B z) (zz_F z)) 0 0 (zz_F z) := by
  refine hw_meti (post := (fun r σ' => σ' = σ ∧ an_o (σ (20, 0) 6 = 1) (gp_cd (zz_N z) (sp_least (zz_N z) (tw_op (zz_n z) r9 w p9 c9 (zz_n z)))) r)) (by decide) (Nat.le_of_ble_eq_true rfl) ?_
  intro p e s m args below meth c ls Q X hret V hl
  have hl : lv_has ls 3 [(0, .ref (zz_A z (20, 0)))] := hl
  have hB := V.1.2.2
  obtain ⟨hD, hR, hf2, hfx⟩ := id hM
  obtain ⟨hn7, hN, hn, hNe, h29, h30, h31⟩ := id hD
  obtain ⟨hw, hsz, hri, hcj⟩ := id hR
  refine nw_aload_n X d_Mod_classes_0 rfl (lv_at hl 0 rfl) ?_
  refine gf_Mod_55 X V (hz (20, 0) rfl) d_Mod_classes_1 ?_
  refine nw_if_ne X (tgt := 9) d_Mod_classes_4 (by decide) (by omega) (fun hc0 => ?_) (fun hc0 => ?_)
  · skip
    have hf1 : σ (20, 0) 6 = 1 := by omega
    obtain ⟨hk, hg, hpl⟩ := hfx hf1
    have g := hg.1
    refine nw_iconst X 0 d_Mod_classes_9 (by decide) ?_
    refine nw_istore_n X (lv' := [(1, _), (0, _)]) d_Mod_classes_10 rfl hl (by decide) rfl (fun ls hl => ?_)
    refine nw_iconst X 0 d_Mod_classes_11 (by decide) ?_
    refine nw_istore_n X (lv' := [(2, _), (1, _), (0, _)]) d_Mod_classes_12 rfl hl (by decide) rfl (fun ls hl => ?_)
    have LP13 : ∀ (d a n9 : Nat) (H : Heap) (locs : List Loc) (ls : Array Slot), zz_N z - a < d → (a ≤ zz_N z) → (n9 = gp_cd a (sp_least (zz_N z) (tw_op (zz_n z) r9 w p9 c9 (zz_n z)))) → zz_V z σ s.heap H locs →  lv_has ls 3 [(0, .ref (zz_A z (20, 0))), (1, .int (nI n9)), (2, .int (nI a))] →  W p l e (hw_r 3) s m args below meth c H locs 0 0 Q (F0 m 13 ls []) := by
      intro d
      induction d with
      | zero => intro a n9 H locs ls hd; exact absurd hd (Nat.not_lt_zero _)
      | succ d IH13 =>
        intro a n9 H locs ls hd haN hcnt V hl
        have hB := V.1.2.2
        refine nw_iload_n X d_Mod_classes_13 rfl (lv_at hl 2 rfl) ?_
        refine nw_aload_n X d_Mod_classes_14 rfl (lv_at hl 0 rfl) ?_
        refine gf_Mod_48 X V (hz (20, 0) rfl) d_Mod_classes_15 ?_
        rw [hNe]
        refine nw_icmp_ge X (tgt := 44) d_Mod_classes_18 (by decide) (by first | assumption | omega) (by first | assumption | omega) (fun ha => ?_) (fun ha => ?_)
        · skip
          refine nw_iload_n X d_Mod_classes_44 rfl (lv_at hl 1 rfl) ?_
          exact hret _ _ _ _ _ _ d_Mod_classes_45 V ⟨rfl, fun _ => by rw [hcnt, show a = zz_N z by omega], fun h => absurd hf1 h⟩
        · skip
          refine nw_aload_n X d_Mod_classes_21 rfl (lv_at hl 0 rfl) ?_
          refine nw_iload_n X d_Mod_classes_22 rfl (lv_at hl 2 rfl) ?_
          refine hw_calli X V (hz (20, 0) rfl) rfl rfl (cm_Mod_least l z σ hz hD _ hg a ha) cs_Mod_114 (by decide) rfl hl.1 rfl (Nat.le_of_ble_eq_true rfl) (by decide) d_Mod_classes_23 (fun r σ' H locs V hr => ?_)
          obtain ⟨hσ, v, rfl, hv1, hv2⟩ := hr
          rw [hσ] at V
          clear hσ
          have hB := V.1.2.2
          have hvl : v < zz_N z := by obtain ⟨b9, h1, rfl⟩ := hv1; exact g.cjl ha h1
          have hle : v = a ↔ sp_least (zz_N z) (tw_op (zz_n z) r9 w p9 c9 (zz_n z)) a := ⟨fun e b9 h9 => by rw [← e]; rw [← e] at hv2; exact hv2 _ ⟨b9, h9, rfl⟩, fun h => by obtain ⟨b9, h1, h2⟩ := hv1; have h3 := h b9 h1; have h4 := hv2 a ⟨0, g.pos, (g.cj0 ha).symm⟩; omega⟩
          refine nw_iload_n X d_Mod_classes_26 rfl (lv_at hl 2 rfl) ?_
          refine nw_icmp_ne X (tgt := 36) d_Mod_classes_27 (by decide) (by omega) (by omega) (fun hva => ?_) (fun hva => ?_)
          · skip
            have hcnt2 : n9 = gp_cd (a + 1) (sp_least (zz_N z) (tw_op (zz_n z) r9 w p9 c9 (zz_n z))) := by rw [(gp_cd_succ a).2 (fun h => hva (hle.mpr h))]; exact hcnt
            refine nw_iload_n X d_Mod_classes_36 rfl (lv_at hl 1 rfl) ?_
            refine nw_istore_n X (lv' := [(1, _), (0, _), (2, _)]) d_Mod_classes_37 rfl hl (by decide) rfl (fun ls hl => ?_)
            refine nw_iinc X (lv' := [(2, _), (1, _), (0, _)]) (k := 2) 1 d_Mod_classes_38 hl rfl (by decide) (by decide) rfl (fun ls hl => ?_)
            refine nw_goto X (tgt := 13) d_Mod_classes_41 (by decide) ?_
            exact IH13 (a + 1) _ _ _ _ (by omega) ha hcnt2 V (lv_sub hl [2, 1, 0] rfl)
          · skip
            have hcnt2 : n9 + 1 = gp_cd (a + 1) (sp_least (zz_N z) (tw_op (zz_n z) r9 w p9 c9 (zz_n z))) := by rw [(gp_cd_succ a).1 (hle.mp hva), hcnt]
            refine nw_iload_n X d_Mod_classes_30 rfl (lv_at hl 1 rfl) ?_
            refine nw_iconst X 1 d_Mod_classes_31 (by decide) ?_
            refine nw_iadd X d_Mod_classes_32 ?_
            refine nw_goto X (tgt := 37) d_Mod_classes_33 (by decide) ?_
            refine nw_istore_n X (lv' := [(1, _), (0, _), (2, _)]) d_Mod_classes_37 rfl hl (by decide) rfl (fun ls hl => ?_)
            refine nw_iinc X (lv' := [(2, _), (1, _), (0, _)]) (k := 2) 1 d_Mod_classes_38 hl rfl (by decide) (by decide) rfl (fun ls hl => ?_)
            refine nw_goto X (tgt := 13) d_Mod_classes_41 (by decide) ?_
            exact IH13 (a + 1) _ _ _ _ (by omega) ha hcnt2 V (lv_sub hl [2, 1, 0] rfl)
    exact LP13 (zz_N z + 1) 0 0 _ _ _ (by omega) (Nat.zero_le _) rfl V (lv_sub hl [2, 1, 0] rfl)
  · skip
    refine nw_iconstv X (-1) d_Mod_classes_7 (by decide) ?_
    exact hret _ _ _ _ _ _ d_Mod_classes_8 V ⟨rfl, fun h => by omega, fun _ => rfl⟩
set_option maxHeartbeats 4000000 in
set_option maxRecDepth 20000 in
theorem cm_Mod_kin (l : Launch) (z : zz_Z) (σ : hw_M) (hz : ∀ k, zz_k (zz_n z) k → zz_O z k) (r9 w p9 : Nat → Nat) (c9 : Nat → Nat → Nat) (S : Nat → Nat → Prop) (hM : ms_ok z σ r9 w p9 c9 S) (x : Int32) : Met l y_Mod_kin (hw_c y_Mod_kin b_Mod_kin 2 (some .int)) (hw_r 3) (va_Pc [.ref (zz_A z (20, 0)), .int x] (zz_B z σ)) (va_Qi (fun r σ' => ms_ok z σ' r9 w p9 c9 S ∧ mq_q σ σ' ∧ an_o (σ (20, 0) 6 = 1 ∧ el_i (zz_N z) x) (gp_cd (zz_N z) (sp_kin (zz_N z) (tw_op (zz_n z) r9 w p9 c9 (zz_n z)) (el_v x))) r) (zz_B z) (zz_F z)) 0 0 (zz_F z) := by
  refine hw_meti (post := (fun r σ' => ms_ok z σ' r9 w p9 c9 S ∧ mq_q σ σ' ∧ an_o (σ (20, 0) 6 = 1 ∧ el_i (zz_N z) x) (gp_cd (zz_N z) (sp_kin (zz_N z) (tw_op (zz_n z) r9 w p9 c9 (zz_n z)) (el_v x))) r)) (by decide) (Nat.le_of_ble_eq_true rfl) ?_
  intro p e s m args below meth c ls Q X hret V hl
  have hl : lv_has ls 2 [(0, .ref (zz_A z (20, 0))), (1, .int x)] := hl
  have hB := V.1.2.2
  obtain ⟨hD, hR, hf2, hfx⟩ := id hM
  obtain ⟨hn7, hN, hn, hNe, h29, h30, h31⟩ := id hD
  obtain ⟨hw, hsz, hri, hcj⟩ := id hR
  refine nw_aload_n X d_Mod_kin_0 rfl (lv_at hl 0 rfl) ?_
  refine nw_iload_n X d_Mod_kin_1 rfl (lv_at hl 1 rfl) ?_
  refine hw_calli X V (hz (20, 0) rfl) rfl rfl (cm_Mod_is l z σ hz hD hf2 x) cs_Mod_81 (by decide) rfl hl.1 rfl (Nat.le_of_ble_eq_true rfl) (by decide) d_Mod_kin_2 (fun r σ' H locs V hr => ?_)
  obtain ⟨b1, hb1, rfl, hσ, hbp1⟩ := hr
  rw [hσ] at V
  clear hσ
  have hB := V.1.2.2
  refine nw_if_eq X (tgt := 16) d_Mod_kin_5 (by decide) (by omega) (fun hc => ?_) (fun hc => ?_)
  · skip
    have hno : ¬ (σ (20, 0) 6 = 1 ∧ el_i (zz_N z) x) := fun h => by have := hbp1.mpr h; omega
    refine nw_iconstv X (-1) d_Mod_kin_16 (by decide) ?_
    exact hret _ _ _ _ _ _ d_Mod_kin_17 V ⟨hM, mq_q.rf, fun h => absurd h hno, fun _ => rfl⟩
  · skip
    obtain ⟨hf1, a, ha, rfl⟩ := hbp1.mp (by omega)
    obtain ⟨hk, hg, hpl⟩ := hfx hf1
    have g := hg.1
    have ev : el_v (nI a) = a := el_nv (by omega) ha
    refine nw_aload_n X d_Mod_kin_8 rfl (lv_at hl 0 rfl) ?_
    refine nw_iload_n X d_Mod_kin_9 rfl (lv_at hl 1 rfl) ?_
    refine hw_calli X V (hz (20, 0) rfl) rfl rfl (cm_Mod_relatives l z σ hz hD _ hg a ha) cs_Mod_117 (by decide) rfl hl.1 rfl (Nat.le_of_ble_eq_true rfl) (by decide) d_Mod_kin_10 (fun r σ1 H locs V hr => ?_)
    obtain ⟨f1, b1, rfl⟩ := hr
    have hB := V.1.2.2
    have hD1 := md_mv hD f1 b1
    refine nw_goto X (tgt := 17) d_Mod_kin_13 (by decide) ?_
    exact hret _ _ _ _ _ _ d_Mod_kin_17 V ⟨ms_set hM (mq_30 f1) ⟨hD1.2.2.2.2.1, hD1.2.2.2.2.2.1, hD1.2.2.2.2.2.2⟩ (fun hf s h1 a h2 => by rw [f1 (29, 0) (hw_ne (by decide))]; exact hpl s h1 a h2), mq_30 f1, fun _ => by rw [ev], fun h => absurd ⟨hf1, a, ha, rfl⟩ h⟩
set_option maxHeartbeats 4000000 in
set_option maxRecDepth 20000 in
theorem cm_Mod_head (l : Launch) (z : zz_Z) (σ : hw_M) (hz : ∀ k, zz_k (zz_n z) k → zz_O z k) (r9 w p9 : Nat → Nat) (c9 : Nat → Nat → Nat) (S : Nat → Nat → Prop) (hM : ms_ok z σ r9 w p9 c9 S) (x : Int32) : Met l y_Mod_head (hw_c y_Mod_head b_Mod_head 2 (some .int)) (hw_r 3) (va_Pc [.ref (zz_A z (20, 0)), .int x] (zz_B z σ)) (va_Qi (fun r σ' => σ' = σ ∧ ((σ (20, 0) 6 = 1 ∧ el_i (zz_N z) x) → ∃ v, r = nI v ∧ sp_head (zz_N z) (tw_op (zz_n z) r9 w p9 c9 (zz_n z)) (el_v x) v) ∧ (¬ (σ (20, 0) 6 = 1 ∧ el_i (zz_N z) x) → r = -1)) (zz_B z) (zz_F z)) 0 0 (zz_F z) := by
  refine hw_meti (post := (fun r σ' => σ' = σ ∧ ((σ (20, 0) 6 = 1 ∧ el_i (zz_N z) x) → ∃ v, r = nI v ∧ sp_head (zz_N z) (tw_op (zz_n z) r9 w p9 c9 (zz_n z)) (el_v x) v) ∧ (¬ (σ (20, 0) 6 = 1 ∧ el_i (zz_N z) x) → r = -1))) (by decide) (Nat.le_of_ble_eq_true rfl) ?_
  intro p e s m args below meth c ls Q X hret V hl
  have hl : lv_has ls 2 [(0, .ref (zz_A z (20, 0))), (1, .int x)] := hl
  have hB := V.1.2.2
  obtain ⟨hD, hR, hf2, hfx⟩ := id hM
  obtain ⟨hn7, hN, hn, hNe, h29, h30, h31⟩ := id hD
  obtain ⟨hw, hsz, hri, hcj⟩ := id hR
  refine nw_aload_n X d_Mod_head_0 rfl (lv_at hl 0 rfl) ?_
  refine nw_iload_n X d_Mod_head_1 rfl (lv_at hl 1 rfl) ?_
  refine hw_calli X V (hz (20, 0) rfl) rfl rfl (cm_Mod_is l z σ hz hD hf2 x) cs_Mod_81 (by decide) rfl hl.1 rfl (Nat.le_of_ble_eq_true rfl) (by decide) d_Mod_head_2 (fun r σ' H locs V hr => ?_)
  obtain ⟨b1, hb1, rfl, hσ, hbp1⟩ := hr
  rw [hσ] at V
  clear hσ
  have hB := V.1.2.2
  refine nw_if_eq X (tgt := 16) d_Mod_head_5 (by decide) (by omega) (fun hc => ?_) (fun hc => ?_)
  · skip
    have hno : ¬ (σ (20, 0) 6 = 1 ∧ el_i (zz_N z) x) := fun h => by have := hbp1.mpr h; omega
    refine nw_iconstv X (-1) d_Mod_head_16 (by decide) ?_
    exact hret _ _ _ _ _ _ d_Mod_head_17 V ⟨rfl, fun h => absurd h hno, fun _ => rfl⟩
  · skip
    obtain ⟨hf1, a, ha, rfl⟩ := hbp1.mp (by omega)
    obtain ⟨hk, hg, hpl⟩ := hfx hf1
    have g := hg.1
    have ev : el_v (nI a) = a := el_nv (by omega) ha
    refine nw_aload_n X d_Mod_head_8 rfl (lv_at hl 0 rfl) ?_
    refine nw_iload_n X d_Mod_head_9 rfl (lv_at hl 1 rfl) ?_
    refine hw_calli X V (hz (20, 0) rfl) rfl rfl (cm_Mod_least l z σ hz hD _ hg a ha) cs_Mod_114 (by decide) rfl hl.1 rfl (Nat.le_of_ble_eq_true rfl) (by decide) d_Mod_head_10 (fun r σ' H locs V hr => ?_)
    obtain ⟨hσ, v, rfl, hv1⟩ := hr
    rw [hσ] at V
    refine nw_goto X (tgt := 17) d_Mod_head_13 (by decide) ?_
    exact hret _ _ _ _ _ _ d_Mod_head_17 V ⟨rfl, fun _ => ⟨v, rfl, by rw [ev]; exact hv1⟩, fun h => absurd ⟨hf1, a, ha, rfl⟩ h⟩
