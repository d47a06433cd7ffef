/-! The class's state behind the calls that change it. -/
section
variable {z : zz_Z} {σ σ1 : hw_M} {S : Nat → Nat → Prop}
theorem cs_ext {S' : Nat → Nat → Prop} (h : cs_ok z σ S) (e : σ (0, 0) 6 = 1 → ∀ s, s < 4 → ∀ v, S s v ↔ S' s v) : cs_ok z σ S' := by
  refine cs_set h cs_q.rf h.2.2.2.1 (fun hf => ?_)
  obtain ⟨hL, hp, hw⟩ := h.2.2.2.2 hf
  refine ⟨fun s hs => ?_, hw⟩
  obtain ⟨q1, b1, h1, h2⟩ := hp s hs
  exact ⟨q1, b1, h1, fun x => (h2 x).trans (e hf s hs x)⟩
/-- not fixed: nothing but relations and sets -/
theorem cs_open {S' : Nat → Nat → Prop} (h1 : st_ok z σ) (h2 : rl_ok z σ) (h3 : σ (0, 0) 6 = 0) (h4 : ∀ j, j < 8 → ∃ q, es_ok z σ j q) : cs_ok z σ S' :=
  ⟨h1, h2, by rw [h3]; decide, h4, fun q => by rw [h3] at q; cases q⟩
theorem cs_pow {j v : Nat} (h : cs_ok z σ S) (hf : σ (0, 0) 6 = 0) (hj : j < zz_n z) (hv : v < σ (3, 0) j) : cs_ok z (hw_up σ (4, 0) j v) S := by
  have e : ∀ k i, k ≠ 4 → hw_up σ (4, 0) j v (k, i) = σ (k, i) := fun k i hk => hw_up_k _ _ _ (hw_ne hk)
  refine cs_open ?_ ⟨fun i hi => ?_, fun i j9 h1 h2 => ?_⟩ (by rw [e 0 0 (by decide)]; exact hf) (fun j9 hj9 => ?_)
  · unfold st_ok
    rw [e 1 0 (by decide), e 2 0 (by decide), e 3 0 (by decide)]
    exact h.1
  · rw [e 3 0 (by decide), hw_up_v]
    by_cases q : i = j
    · rw [if_pos q, q]; exact hv
    · rw [if_neg q]; exact h.2.1.1 i hi
  · rw [e 3 0 (by decide), e 6 i (by decide)]; exact h.2.1.2 i j9 h1 h2
  · obtain ⟨q, hq⟩ := h.2.2.2.1 j9 hj9
    exact ⟨q, es_keep hq (e 13 j9 (by decide)) (e 14 j9 (by decide)) (e 15 j9 (by decide))⟩
theorem cs_cgj {a j v : Nat} (h : cs_ok z σ S) (hf : σ (0, 0) 6 = 0) (hv : v < σ (3, 0) a) : cs_ok z (hw_up σ (6, a) j v) S := by
  have e : ∀ k i, k ≠ 6 → hw_up σ (6, a) j v (k, i) = σ (k, i) := fun k i hk => hw_up_k _ _ _ (hw_ne hk)
  refine cs_open ?_ ⟨fun i hi => ?_, fun i j9 h1 h2 => ?_⟩ (by rw [e 0 0 (by decide)]; exact hf) (fun j9 hj9 => ?_)
  · unfold st_ok
    rw [e 1 0 (by decide), e 2 0 (by decide), e 3 0 (by decide)]
    exact h.1
  · rw [e 3 0 (by decide), e 4 0 (by decide)]; exact h.2.1.1 i hi
  · rw [e 3 0 (by decide)]
    by_cases q : i = a
    · rw [q, hw_up_v]
      by_cases q2 : j9 = j
      · rw [if_pos q2]; exact hv
      · rw [if_neg q2, ← q]; exact h.2.1.2 i j9 h1 h2
    · rw [hw_up_k _ _ _ (hw_ne2 q)]; exact h.2.1.2 i j9 h1 h2
  · obtain ⟨q, hq⟩ := h.2.2.2.1 j9 hj9
    exact ⟨q, es_keep hq (e 13 j9 (by decide)) (e 14 j9 (by decide)) (e 15 j9 (by decide))⟩
theorem pw_eq {fx n j v : Nat} {w : Nat → Nat} (hn : n ≤ 128) (h : sp_pw fx n w (nI j) (nI v)) (hj : j < n) (hv : v < 2147483648) : hw_up σ (4, 0) j v (4, 0) = sp_pw1 fx n w (σ (4, 0)) (nI j) (nI v) := by
  funext i
  have e1 : el_v (nI j) = j := nI_clamp (show j < 2 ^ 31 by omega)
  have e2 : el_v (nI v) = v := nI_clamp hv
  unfold sp_pw1
  rw [hw_up_v, e1, e2]
  by_cases q : i = j
  · rw [if_pos q, cn_t ⟨h, q⟩]
  · rw [if_neg q, cn_f (fun z => q z.2)]
theorem pw_no {fx n : Nat} {w p : Nat → Nat} {x y : Int32} (h : ¬ sp_pw fx n w x y) : p = sp_pw1 fx n w p x y := by
  funext i
  unfold sp_pw1
  rw [cn_f (fun z => h z.1)]
theorem cg_eq {fx n a j v : Nat} {w : Nat → Nat} (hn : n ≤ 128) (h : sp_cg fx n w (nI a) (nI j) (nI v)) (ha : a < n) (hj : j < n) (hv : v < 2147483648) : (fun i => hw_up σ (6, a) j v (6, i)) = sp_cg1 fx n w (fun i => σ (6, i)) (nI a) (nI j) (nI v) := by
  funext i b
  have e1 : el_v (nI j) = j := nI_clamp (show j < 2 ^ 31 by omega)
  have e2 : el_v (nI v) = v := nI_clamp hv
  have e3 : el_v (nI a) = a := nI_clamp (show a < 2 ^ 31 by omega)
  unfold sp_cg1
  rw [e1, e2, e3]
  by_cases q : i = a
  · subst q
    rw [hw_up_v]
    by_cases q2 : b = j
    · rw [if_pos q2, cn_t ⟨h, rfl, q2⟩]
    · rw [if_neg q2, cn_f (fun z => q2 z.2.2)]
  · rw [hw_up_k _ _ _ (hw_ne2 q), cn_f (fun z => q z.2.1)]
theorem cg_no {fx n : Nat} {w : Nat → Nat} {c : Nat → Nat → Nat} {x y u : Int32} (h : ¬ sp_cg fx n w x y u) : c = sp_cg1 fx n w c x y u := by
  funext i b
  unfold sp_cg1
  rw [cn_f (fun z => h z.1)]
/-- all letters in: all -/
theorem sg_full {j : Nat} {q c : List Nat} {σ2 : hw_M} (hL : lo_ok z σ 0) (hG : sg_gp z (gr_p z σ) σ2 j q c) (h : ∀ t, t < zz_n z → σ (3, 0) t ∈ q) : ∀ x, x ∈ q ↔ x < zz_N z := by
  have g := lo_gp hL
  have hsb := gp_gn.sb (X := fun y => y ∈ c) g hG.1.2.2.2.2
  intro x
  refine ⟨hG.1.1.2.1 x, fun hx => ?_⟩
  obtain ⟨⟨-, -, -, -, hw, hsz, -⟩, hk, -⟩ := hL
  rw [hsz] at hx
  have h1 := tw_gn hw hk x hx
  rw [← hsz] at h1
  exact (hG.2.1 x).mpr (gp_gn.le hsb (fun y hy => by obtain ⟨t, ht, rfl⟩ := hy; exact (hG.2.1 _).mp (h t ht)) h1)
theorem sg_join {j a : Nat} {o : Nat → Nat → Nat} {σ2 : hw_M} {q c q' c' : List Nat} {T : Nat → Prop} (hG : sg_gp z o σ j q c) (hT : ∀ x, x ∈ q ↔ T x) (hG' : sg_gp z o σ2 j q' c') (ha : a ∈ q') (hc : c' = c ∨ c' = c ++ [a]) (g : gp_ok (zz_N z) o) : ∀ x, x ∈ q' ↔ sp_join (zz_N z) o T a x := by
  have hsb := gp_gn.sb (X := fun y => y ∈ c') g hG'.1.2.2.2.2
  have hal : a < zz_N z := hG'.1.1.2.1 a ha
  have hX : ∀ u, (T u ∨ u = a) → u < zz_N z := fun u hu => hu.elim (fun h => hG.1.1.2.1 u ((hT u).mpr h)) (fun h => by rw [h]; exact hal)
  have hcc : ∀ b, b ∈ c → b ∈ c' := fun b hb => by rcases hc with e | e <;> rw [e]; exact hb; exact List.mem_append_left _ hb
  intro x
  constructor
  · intro hx
    refine gp_gn.le (gp_gn.sb g hX) (fun y hy => ?_) ((hG'.2.1 x).mp hx)
    have hy : y ∈ c' := hy
    rcases hc with e | e
    · rw [e] at hy; exact gp_gn.in (Or.inl ((hT y).mp (sg_basis hG y hy)))
    · rw [e] at hy
      rcases List.mem_append.mp hy with h | h
      · exact gp_gn.in (Or.inl ((hT y).mp (sg_basis hG y h)))
      · rw [List.mem_singleton] at h; exact gp_gn.in (Or.inr h)
  · intro hx
    refine (hG'.2.1 x).mpr (gp_gn.le hsb (fun y hy => ?_) hx)
    rcases hy with h | h
    · exact (hG'.2.1 y).mp (sg_mono hG hG' hcc y ((hT y).mpr h))
    · rw [h]; exact (hG'.2.1 a).mp ha
theorem sg_spread {j : Nat} {o : Nat → Nat → Nat} {σ2 σ3 : hw_M} {q c q' c' qw bw : List Nat} {T : Nat → Prop} (g : gp_ok (zz_N z) o) (hG : sg_gp z o σ j q c) (hT : ∀ x, x ∈ q ↔ T x) (hG' : sg_gp z o σ2 j q' c') (hW : sg_gp z o σ3 4 qw bw) (hall : ∀ x, x ∈ qw ↔ x < zz_N z)
    (hs : ∀ b, b ∈ c → b ∈ c') (hc : ∀ y b, y ∈ c' → b ∈ bw → gp_cj (zz_N z) o y b ∈ q') (hm : ∀ K : Nat → Prop, gp_sb (zz_N z) o K → (∀ b, b ∈ c → K b) → (∀ k b, K k → b ∈ bw → K (gp_cj (zz_N z) o k b)) → ∀ b, b ∈ c' → K b) : ∀ x, x ∈ q' ↔ sp_spread (zz_N z) o T x := by
  intro x
  rw [hG'.2.1 x, gp_spread g hG.1.2.2.2.2 hG'.1.2.2.2.2 hW.1.2.2.2.2 (fun y hy => (hW.2.1 y).mp ((hall y).mpr hy)) (fun b hb => gp_gn.in (hs b hb)) (fun y b hy hb => (hG'.2.1 _).mp (hc y b hy hb)) hm x]
  refine gp_gn_ext (fun c9 => ⟨fun ⟨a, b, h1, h2, h3⟩ => ⟨a, b, (hT a).mp ((hG.2.1 a).mpr h1), h2, h3⟩, fun ⟨a, b, h1, h2, h3⟩ => ⟨a, b, (hG.2.1 a).mp ((hT a).mpr h1), h2, h3⟩⟩) x
theorem sg_csT {js jt : Nat} {o : Nat → Nat → Nat} {σ2 : hw_M} {qs bs qt bt q' : List Nat} {T U : Nat → Prop} (hs : sg_gp z o σ js qs bs) (ht : sg_gp z o σ2 jt qt bt) (hT : ∀ x, x ∈ qs ↔ T x) (hU : ∀ x, x ∈ qt ↔ U x) (h : ∀ x, x ∈ q' ↔ gp_cs (zz_N z) o (gp_gn (zz_N z) o (fun y => y ∈ bs)) (gp_gn (zz_N z) o (fun y => y ∈ bt)) x) : ∀ x, x ∈ q' ↔ gp_cs (zz_N z) o T U x :=
  fun x => (h x).trans (gp_cs_ext (fun y => (hs.2.1 y).symm.trans (hT y)) (fun y => (ht.2.1 y).symm.trans (hU y)) x)
theorem cs_side {j : Nat} (h : cs_ok z σ S) (hf : σ (0, 0) 6 = 1) (hj : 4 < j) (hfr : sg_fr j σ σ1) (hq : ∃ q, es_ok z σ1 j q) : cs_ok z σ1 S ∧ σ1 (0, 0) 6 = 1 ∧ gr_p z σ1 = gr_p z σ := by
  obtain ⟨hL, hp, qw, bw, hw1, hw2⟩ := h.2.2.2.2 hf
  refine ⟨cs_set h hfr.cq (es_all h.2.2.2.1 hfr hq) (fun _ => ⟨fun s hs => ?_, qw, bw, sg_gpo hw1 hfr (by omega), hw2⟩), by rw [hfr.cq.fx]; exact hf, (hfr.cq.lo hL).2⟩
  obtain ⟨q1, b1, h1, h2⟩ := hp s hs
  exact ⟨q1, b1, sg_gpo h1 hfr (by omega), h2⟩
theorem fx_end {σ2 σ3 : hw_M} {qw bw : List Nat} (hC : cs_ok z σ S) (hf0 : σ (0, 0) 6 = 0) (hk : mo_k z σ (zz_n z)) (f1 : ∀ u : hw_P, u.1 ≠ 8 → u.1 ≠ 10 → σ1 u = σ u) (hL1 : lo_ok z σ1 0)
    (hL2 : lo_ok z σ2 0) (hfl : σ2 (0, 0) 6 = 1) (hfr : ∀ u : hw_P, u.1 ≠ 0 → (u.1 < 12 ∨ 16 < u.1) → σ2 u = σ1 u) (hes : ∀ j, j < 8 → ∃ q, es_ok z σ2 j q) (hz : ∀ s, s < 4 → sg_ok z σ2 s [0] [])
    (hG : sg_gp z (gr_p z σ2) σ3 4 qw bw) (hall : ∀ x, x ∈ qw ↔ x < zz_N z) (f3 : sg_fr 4 σ2 σ3) (hfl3 : σ3 (0, 0) 6 = 1) :
    σ3 (0, 0) 6 = cn_n (σ (0, 0) 6 = 1 ∨ mo_k z σ (zz_n z)) 1 0 ∧ cs_ok z σ3 (fun s v => (σ (0, 0) 6 = 1 ∧ S s v) ∨ (σ (0, 0) 6 ≠ 1 ∧ v = 0)) ∧ σ3 (0, 0) 6 = σ3 (0, 0) 6 ∧ (∀ u : hw_P, u.1 < 8 → u.1 ≠ 0 → σ3 u = σ u) ∧ ∀ u : hw_P, 16 < u.1 → σ3 u = σ u := by
  have hne : ¬ σ (0, 0) 6 = 1 := fun q => by rw [hf0] at q; cases q
  have hL3 := f3.cq.lo hL2
  have g := lo_gp hL2
  have hR1 := rl_keep hC.2.1 f1
  refine ⟨by rw [cn_t (Or.inr hk)]; exact hfl3, ⟨hL3.1.1, ?_, by rw [hfl3]; decide, es_all hes f3 ⟨qw, hG.1.1⟩, fun _ => ⟨hL3.1, fun s hs => ?_, ?_⟩⟩, rfl, fun u h1 h2 => ?_, fun u h1 => ?_⟩
  · have e3 : σ3 (3, 0) = σ1 (3, 0) := (f3.cq (3, 0) (Or.inl (by decide))).trans (hfr (3, 0) (by decide) (Or.inl (by decide)))
    have e4 : σ3 (4, 0) = σ1 (4, 0) := (f3.cq (4, 0) (Or.inl (by decide))).trans (hfr (4, 0) (by decide) (Or.inl (by decide)))
    have e6 : ∀ i, σ3 (6, i) = σ1 (6, i) := fun i => (f3.cq (6, i) (Or.inl (by show (6 : Nat) < 12; decide))).trans (hfr (6, i) (by show (6 : Nat) ≠ 0; decide) (Or.inl (by show (6 : Nat) < 12; decide)))
    exact ⟨fun i hi => by rw [e3, e4]; exact hR1.1 i hi, fun i j h1 h2 => by rw [e3, e6]; exact hR1.2 i j h1 h2⟩
  · rw [hL3.2]
    exact ⟨[0], [], sg_gp0 g (sg_oth (hz s hs) f3 (by omega)), fun x => ⟨fun hx => Or.inr ⟨hne, List.mem_singleton.mp hx⟩, fun hx => hx.elim (fun q => absurd q.1 hne) (fun q => List.mem_singleton.mpr q.2)⟩⟩
  · rw [hL3.2]
    exact ⟨qw, bw, hG, hall⟩
  · exact ((f3.cq u (Or.inl (by omega))).trans (hfr u h2 (Or.inl (by omega)))).trans (f1 u (by omega) (by omega))
  · exact ((f3.cq u (Or.inr h1)).trans (hfr u (by omega) (Or.inr h1))).trans (f1 u (by omega) (by omega))
end
