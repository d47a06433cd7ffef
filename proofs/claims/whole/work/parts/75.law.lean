/-! The law's invariant: class and reference hold the same. -/
theorem sp_ser_in {N : Nat} {o : Nat → Nat → Nat} (g : gp_ok N o) {S T : Nat → Prop} (hS : gp_sb N o S) (hT : ∀ t, T t → t < N) (h : ∀ s t, S s → T t → S (gp_cj N o s t)) : ∀ a, gp_cs N o S T a → S a := by
  intro a ha
  refine gp_gn.le hS (fun x hx => ?_) ha
  obtain ⟨s, t, hs, ht, rfl⟩ := hx
  exact hS.2.2 _ _ (hS.iv g hs) (h s t hs ht)
theorem sp_stop0 {N : Nat} {o : Nat → Nat → Nat} (g : gp_ok N o) (hN : N ≤ 128) : ∀ x, sp_ser N o false 8 x ↔ sp_ser N o false 7 x := by
  refine gp_ser_stop g hN (F := fun S => gp_cs N o S (if false = true then sp_all N else S)) (fun S hS => ⟨sp_ser_sb g false S hS, ?_⟩) (fun S S' h x => gp_cs_ext h h x) (gp_all g)
  exact sp_ser_in g hS hS.2.1 (fun s t hs ht => hS.2.2 _ _ (hS.2.2 _ _ (hS.iv g ht) hs) ht)
/-- with the whole group: cut with the term itself, which changes nothing -/
theorem sp_stop1 {N : Nat} {o : Nat → Nat → Nat} (g : gp_ok N o) (hN : N ≤ 128) : ∀ x, sp_ser N o true 8 x ↔ sp_ser N o true 7 x := by
  have hall := gp_all g
  have h1 := gp_ser_stop g hN (F := fun S => fun x => gp_cs N o S (sp_all N) x ∧ S x) (S := sp_all N) (fun S hS => by
    have h2 := gp_cs.sb g hS hall
    exact ⟨⟨⟨h2.1, hS.1⟩, fun a h => hS.2.1 a h.2, fun a b ha hb => ⟨h2.2.2 a b ha.1 hb.1, hS.2.2 a b ha.2 hb.2⟩⟩, fun a h => h.2⟩) (fun S S' h x => by
    have h2 := gp_cs_ext (N := N) (o := o) (T := sp_all N) (T' := sp_all N) h (fun _ => Iff.rfl) x
    show (_ ∧ _) ↔ (_ ∧ _)
    rw [h2, h x]) hall
  have h2 : ∀ k, sp_nm N o (sp_ser N o true k) ∧ ∀ x, gp_ser (fun S => fun x => gp_cs N o S (sp_all N) x ∧ S x) (sp_all N) k x ↔ sp_ser N o true k x := by
    intro k
    induction k with
    | zero => exact ⟨fun k s hk hs => g.cjl hk hs, fun x => Iff.rfl⟩
    | succ k ih =>
      have hsb := sp_sb g true k
      refine ⟨fun a s ha hs => gp_cs.cj2 g hsb hall hs ha, fun x => ?_⟩
      have e := gp_cs_ext (N := N) (o := o) (T := sp_all N) (T' := sp_all N) ih.2 (fun _ => Iff.rfl) x
      have hin := sp_ser_in g hsb (T := sp_all N) (fun t ht => ht) (fun s t hs ht => ih.1 s t hs ht) x
      exact ⟨fun h => e.mp h.1, fun h => ⟨e.mpr h, (ih.2 x).mpr (hin h)⟩⟩
  exact fun x => ((h2 8).2 x).symm.trans ((h1 x).trans ((h2 7).2 x))
theorem sp_min {N : Nat} {o : Nat → Nat → Nat} (g : gp_ok N o) (hN : N ≤ 128) (w : Bool) (k : Nat) : gp_cd N (sp_ser N o w (min k 7)) = gp_cd N (sp_ser N o w (min k 8)) := by
  by_cases h : k ≤ 7
  · rw [Nat.min_eq_left h, Nat.min_eq_left (show k ≤ 8 by omega)]
  · rw [Nat.min_eq_right (by omega), Nat.min_eq_right (by omega)]
    refine gp_cd_congr (fun x _ => ?_)
    cases w
    · exact (sp_stop0 g hN x).symm
    · exact (sp_stop1 g hN x).symm
section
variable {z : zz_Z} {σ σ1 σ2 : hw_M} {r w p : Nat → Nat} {c : Nat → Nat → Nat} {S S1 : Nat → Nat → Prop}
theorem cs_mv (h : cs_ok z σ S) (e : ∀ u : hw_P, u.1 < 20 → σ1 u = σ u) : cs_ok z σ1 S := by
  have e0 : ∀ j, σ1 (0, j) = σ (0, j) := fun j => e (0, j) (by show (0 : Nat) < 20; decide)
  have e1 : ∀ j, σ1 (1, j) = σ (1, j) := fun j => e (1, j) (by show (1 : Nat) < 20; decide)
  have e2 : ∀ j, σ1 (2, j) = σ (2, j) := fun j => e (2, j) (by show (2 : Nat) < 20; decide)
  have e3 : ∀ j, σ1 (3, j) = σ (3, j) := fun j => e (3, j) (by show (3 : Nat) < 20; decide)
  have e4 : ∀ j, σ1 (4, j) = σ (4, j) := fun j => e (4, j) (by show (4 : Nat) < 20; decide)
  have e6 : ∀ j, σ1 (6, j) = σ (6, j) := fun j => e (6, j) (by show (6 : Nat) < 20; decide)
  have e8 : ∀ j, σ1 (8, j) = σ (8, j) := fun j => e (8, j) (by show (8 : Nat) < 20; decide)
  have e10 : ∀ j, σ1 (10, j) = σ (10, j) := fun j => e (10, j) (by show (10 : Nat) < 20; decide)
  have e12 : ∀ j, σ1 (12, j) = σ (12, j) := fun j => e (12, j) (by show (12 : Nat) < 20; decide)
  have e13 : ∀ j, σ1 (13, j) = σ (13, j) := fun j => e (13, j) (by show (13 : Nat) < 20; decide)
  have e14 : ∀ j, σ1 (14, j) = σ (14, j) := fun j => e (14, j) (by show (14 : Nat) < 20; decide)
  have e15 : ∀ j, σ1 (15, j) = σ (15, j) := fun j => e (15, j) (by show (15 : Nat) < 20; decide)
  have e16 : ∀ j, σ1 (16, j) = σ (16, j) := fun j => e (16, j) (by show (16 : Nat) < 20; decide)
  have hh : cs_ok z σ1 S = cs_ok z σ S := by
    unfold cs_ok lo_ok st_ok rl_ok sg_gp sg_ok es_ok gr_p mo_p mo_k
    simp only [e0, e1, e2, e3, e4, e6, e8, e10, e12, e13, e14, e15, e16]
  rw [hh]
  exact h
theorem ms_mv (h : ms_ok z σ r w p c S) (e : ∀ u : hw_P, 16 < u.1 → σ1 u = σ u) : ms_ok z σ1 r w p c S := by
  have e20 : σ1 (20, 0) = σ (20, 0) := e (20, 0) (by show (16 : Nat) < 20; decide)
  have e21 : σ1 (21, 0) = σ (21, 0) := e (21, 0) (by show (16 : Nat) < 21; decide)
  have e22 : σ1 (22, 0) = σ (22, 0) := e (22, 0) (by show (16 : Nat) < 22; decide)
  have e23 : σ1 (23, 0) = σ (23, 0) := e (23, 0) (by show (16 : Nat) < 23; decide)
  have e24 : σ1 (24, 0) = σ (24, 0) := e (24, 0) (by show (16 : Nat) < 24; decide)
  have e25 : σ1 (25, 0) = σ (25, 0) := e (25, 0) (by show (16 : Nat) < 25; decide)
  have e28 : σ1 (28, 0) = σ (28, 0) := e (28, 0) (by show (16 : Nat) < 28; decide)
  have e29 : σ1 (29, 0) = σ (29, 0) := e (29, 0) (by show (16 : Nat) < 29; decide)
  have e30 : σ1 (30, 0) = σ (30, 0) := e (30, 0) (by show (16 : Nat) < 30; decide)
  have e31 : σ1 (31, 0) = σ (31, 0) := e (31, 0) (by show (16 : Nat) < 31; decide)
  have hh : ms_ok z σ1 r w p c S = ms_ok z σ r w p c S := by
    unfold ms_ok md_ok mr_ok mg_ok
    simp only [e20, e21, e22, e23, e24, e25, e28, e29, e30, e31]
  rw [hh]
  exact h
/-- what the law's loop keeps -/
def lw_J (z : zz_Z) (σ : hw_M) : Prop := ∃ S, cs_ok z σ S ∧ ms_ok z σ (σ (2, 0)) (σ (3, 0)) (σ (4, 0)) (fun i => σ (6, i)) S ∧ σ (20, 0) 6 = σ (0, 0) 6 ∧ ∀ s, s < 4 → ∀ v, S s v → v < zz_N z
theorem lw_fin (hC : cs_ok z σ S) (hM : ms_ok z σ (σ (2, 0)) (σ (3, 0)) (σ (4, 0)) (fun i => σ (6, i)) S) (hf : σ (20, 0) 6 = σ (0, 0) 6) : lw_J z σ := by
  by_cases h1 : σ (0, 0) 6 = 1
  · refine ⟨S, hC, hM, hf, fun s hs v hv => ?_⟩
    obtain ⟨q, b, hG, hT⟩ := (hC.2.2.2.2 h1).2.1 s hs
    exact hG.1.1.2.1 v ((hT v).mpr hv)
  · exact ⟨fun _ _ => False, cs_ext hC (fun h => absurd h h1), ⟨hM.1, hM.2.1, hM.2.2.1, fun h => absurd (hf.symm.trans h) h1⟩, hf, fun _ _ _ h => h.elim⟩
/-- a call of the class that keeps the relations, one of the reference that does -/
theorem lw_q (hC1 : cs_ok z σ1 S1) (hq1 : cs_q σ σ1) (hM2 : ms_ok z σ2 (σ (2, 0)) (σ (3, 0)) (σ (4, 0)) (fun i => σ (6, i)) S1) (hq2 : mq_q σ1 σ2) (hf : σ (20, 0) 6 = σ (0, 0) 6) : lw_J z σ2 := by
  have hlo : ∀ u : hw_P, u.1 < 20 → σ2 u = σ1 u := fun u hu => hq2 u (fun e => by rw [e] at hu; exact absurd hu (by decide)) (fun e => by rw [e] at hu; exact absurd hu (by decide)) (fun e => by rw [e] at hu; exact absurd hu (by decide))
  have ha : ∀ k j, k < 12 → σ2 (k, j) = σ (k, j) := fun k j hk => (hlo (k, j) (show k < 20 by omega)).trans (hq1 (k, j) (Or.inl hk))
  refine lw_fin (cs_mv hC1 hlo) ?_ ?_
  · rw [ha 2 0 (by decide), ha 3 0 (by decide), ha 4 0 (by decide), show (fun i => σ2 (6, i)) = fun i => σ (6, i) from funext fun i => ha 6 i (by decide)]
    exact hM2
  · rw [ha 0 0 (by decide), hq2 (20, 0) (hw_ne (by decide)) (hw_ne (by decide)) (hw_ne (by decide)), hq1 (20, 0) (Or.inr (by decide))]
    exact hf
theorem lw_e20 (hq1 : cs_q σ σ1) (hf : σ (20, 0) 6 = σ (0, 0) 6) : σ1 (20, 0) 6 = σ (0, 0) 6 := by
  rw [hq1 (20, 0) (Or.inr (by decide))]
  exact hf
theorem lw_m1 (hM : ms_ok z σ r w p c S) (hq1 : cs_q σ σ1) : ms_ok z σ1 r w p c S := ms_mv hM (fun u hu => hq1 u (Or.inr hu))
/-- power -/
theorem lw_pw {p' : Nat → Nat} (hC1 : cs_ok z σ1 S) (h4 : σ1 (4, 0) = p') (hq1 : ∀ u : hw_P, u ≠ (4, 0) → σ1 u = σ u) (hM2 : ms_ok z σ2 (σ (2, 0)) (σ (3, 0)) p' (fun i => σ (6, i)) S) (hq2 : ∀ u : hw_P, u ≠ (23, 0) → σ2 u = σ1 u) (hf : σ (20, 0) 6 = σ (0, 0) 6) : lw_J z σ2 := by
  have hlo : ∀ u : hw_P, u.1 < 20 → σ2 u = σ1 u := fun u hu => hq2 u (fun e => by rw [e] at hu; exact absurd hu (by decide))
  have ha : ∀ k j, k < 20 → k ≠ 4 → σ2 (k, j) = σ (k, j) := fun k j hk h => (hlo (k, j) hk).trans (hq1 (k, j) (fun e => h (congrArg Prod.fst e)))
  refine lw_fin (cs_mv hC1 hlo) ?_ ?_
  · rw [ha 2 0 (by decide) (by decide), ha 3 0 (by decide) (by decide), hlo (4, 0) (by decide), h4, show (fun i => σ2 (6, i)) = fun i => σ (6, i) from funext fun i => ha 6 i (by decide) (by decide)]
    exact hM2
  · rw [ha 0 0 (by decide) (by decide), hq2 (20, 0) (hw_ne (by decide)), hq1 (20, 0) (hw_ne (by decide))]
    exact hf
/-- conjugate -/
theorem lw_cg {c' : Nat → Nat → Nat} (hC1 : cs_ok z σ1 S) (h6 : (fun i => σ1 (6, i)) = c') (hq1 : ∀ u : hw_P, u.1 ≠ 6 → σ1 u = σ u) (hM2 : ms_ok z σ2 (σ (2, 0)) (σ (3, 0)) (σ (4, 0)) c' S) (hq2 : ∀ u : hw_P, u ≠ (24, 0) → σ2 u = σ1 u) (hf : σ (20, 0) 6 = σ (0, 0) 6) : lw_J z σ2 := by
  have hlo : ∀ u : hw_P, u.1 < 20 → σ2 u = σ1 u := fun u hu => hq2 u (fun e => by rw [e] at hu; exact absurd hu (by decide))
  have ha : ∀ k j, k < 20 → k ≠ 6 → σ2 (k, j) = σ (k, j) := fun k j hk h => (hlo (k, j) hk).trans (hq1 (k, j) h)
  refine lw_fin (cs_mv hC1 hlo) ?_ ?_
  · rw [ha 2 0 (by decide) (by decide), ha 3 0 (by decide) (by decide), ha 4 0 (by decide) (by decide), show (fun i => σ2 (6, i)) = c' from (funext fun i => hlo (6, i) (by decide : (6 : Nat) < 20)).trans h6]
    exact hM2
  · rw [ha 0 0 (by decide) (by decide), hq2 (20, 0) (hw_ne (by decide)), hq1 (20, 0) (by decide)]
    exact hf
/-- fix -/
theorem lw_fx {b : Nat} (hC1 : cs_ok z σ1 S1) (hb : σ1 (0, 0) 6 = b) (hq1 : ∀ u : hw_P, u.1 < 8 → u.1 ≠ 0 → σ1 u = σ u) (hM2 : ms_ok z σ2 (σ (2, 0)) (σ (3, 0)) (σ (4, 0)) (fun i => σ (6, i)) S1) (hb2 : σ2 (20, 0) 6 = b) (hlo : ∀ u : hw_P, u.1 < 20 → σ2 u = σ1 u) : lw_J z σ2 := by
  have ha : ∀ k j, k < 8 → k ≠ 0 → σ2 (k, j) = σ (k, j) := fun k j hk h => (hlo (k, j) (show k < 20 by omega)).trans (hq1 (k, j) hk h)
  refine lw_fin (cs_mv hC1 hlo) ?_ ?_
  · rw [ha 2 0 (by decide) (by decide), ha 3 0 (by decide) (by decide), ha 4 0 (by decide) (by decide), show (fun i => σ2 (6, i)) = fun i => σ (6, i) from funext fun i => ha 6 i (by decide) (by decide)]
    exact hM2
  · rw [hlo (0, 0) (by decide), hb, hb2]
end
section
variable {z : zz_Z} {σ : hw_M} {S : Nat → Nat → Prop} {P : Prop} {o : Nat → Nat → Nat} {a N : Nat} {y r r' : Int32}
theorem lw_rel (hC1 : cs_ok z (hw_up σ (0, 0) 6 0) S) (hM2 : ms_ok z (hw_up (hw_up σ (0, 0) 6 0) (20, 0) 6 0) (σ (2, 0)) (σ (3, 0)) (σ (4, 0)) (fun i => σ (6, i)) S) : lw_J z (hw_up (hw_up σ (0, 0) 6 0) (20, 0) 6 0) := by
  have ha : ∀ k j, k < 20 → k ≠ 0 → hw_up (hw_up σ (0, 0) 6 0) (20, 0) 6 0 (k, j) = σ (k, j) := fun k j hk h => by
    rw [hw_up_k _ _ _ (fun e => absurd (congrArg Prod.fst e) (show k ≠ 20 by omega)), hw_up_k _ _ _ (fun e => h (congrArg Prod.fst e))]
  refine lw_fin (cs_mv hC1 (fun u hu => hw_up_k _ _ _ (fun e => by rw [e] at hu; exact absurd hu (by decide)))) ?_ ?_
  · rw [ha 2 0 (by decide) (by decide), ha 3 0 (by decide) (by decide), ha 4 0 (by decide) (by decide), show (fun i => hw_up (hw_up σ (0, 0) 6 0) (20, 0) 6 0 (6, i)) = fun i => σ (6, i) from funext fun i => ha 6 i (by decide) (by decide)]
    exact hM2
  · rw [hw_up_s, hw_up_k _ _ _ (hw_ne (by decide)), hw_up_s]
theorem lw_or (h : (P → ∃ k, r = nI k ∧ gp_od o a k) ∧ (¬ P → r = -1)) (h' : (P → ∃ k, r' = nI k ∧ gp_od o a k) ∧ (¬ P → r' = -1)) : r = r' := by
  by_cases q : P
  · obtain ⟨k, e1, e2⟩ := h.1 q
    obtain ⟨k', e3, e4⟩ := h'.1 q
    rw [e1, e3, gp_od_u e2 e4]
  · rw [h.2 q, h'.2 q]
theorem lw_tm (h : (P → ∃ k n, gp_od o a k ∧ sp_md y k n ∧ r = nI (gp_pw o a n)) ∧ (¬ P → r = -1)) (h' : (P → ∃ k n, gp_od o a k ∧ sp_md y k n ∧ r' = nI (gp_pw o a n)) ∧ (¬ P → r' = -1)) : r = r' := by
  by_cases q : P
  · obtain ⟨k, n, e1, e2, e3⟩ := h.1 q
    obtain ⟨k', n', e4, e5, e6⟩ := h'.1 q
    have e7 := gp_od_u e1 e4
    subst e7
    rw [e3, e6, sp_md_u e2 e5]
  · rw [h.2 q, h'.2 q]
theorem lw_hd (h : (P → ∃ v, r = nI v ∧ sp_head N o a v) ∧ (¬ P → r = -1)) (h' : (P → ∃ v, r' = nI v ∧ sp_head N o a v) ∧ (¬ P → r' = -1)) : r = r' := by
  by_cases q : P
  · obtain ⟨v, e1, e2⟩ := h.1 q
    obtain ⟨v', e3, e4⟩ := h'.1 q
    rw [e1, e3, Nat.le_antisymm (e2.2 _ e4.1) (e4.2 _ e2.1)]
  · rw [h.2 q, h'.2 q]
end
