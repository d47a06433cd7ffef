/-! Series, centre and classes of the class's object. -/
def fr_56 (σ σ1 : hw_M) : Prop := ∀ u : hw_P, (u.2 ≠ 5 ∧ u.2 ≠ 6) ∨ u.1 < 12 ∨ 16 < u.1 → σ1 u = σ u
theorem fr_56.of5 {σ σ1 : hw_M} (h : sg_fr 5 σ σ1) : fr_56 σ σ1 := fun u hu => h u (hu.elim (fun q => Or.inl q.1) Or.inr)
theorem fr_56.of6 {σ σ1 : hw_M} (h : sg_fr 6 σ σ1) : fr_56 σ σ1 := fun u hu => h u (hu.elim (fun q => Or.inl q.2) Or.inr)
theorem fr_56.tr {σ σ1 σ2 : hw_M} (h : fr_56 σ σ1) (h2 : fr_56 σ1 σ2) : fr_56 σ σ2 := fun u hu => (h2 u hu).trans (h u hu)
theorem fr_56.cq {σ σ1 : hw_M} (h : fr_56 σ σ1) : cs_q σ σ1 := fun u hu => h u (Or.inr hu)
section
variable {z : zz_Z} {σ σ1 : hw_M} {S : Nat → Nat → Prop}
theorem fr_56.es {j : Nat} {q : List Nat} (h : fr_56 σ σ1) (hj : j ≠ 5 ∧ j ≠ 6) (hq : es_ok z σ j q) : es_ok z σ1 j q :=
  es_keep hq (h (13, j) (Or.inl hj)) (h (14, j) (Or.inl hj)) (h (15, j) (Or.inl hj))
theorem fr_56.gp {o : Nat → Nat → Nat} {j : Nat} {q c : List Nat} (h : fr_56 σ σ1) (hj : j ≠ 5 ∧ j ≠ 6) (hq : sg_gp z o σ j q c) : sg_gp z o σ1 j q c := by
  refine ⟨⟨h.es hj hq.1.1, ?_, hq.1.2.2.1, ?_, hq.1.2.2.2.2⟩, hq.2⟩
  · rw [h (12, j) (Or.inl hj)]; exact hq.1.2.1
  · rw [h (16, j) (Or.inl hj)]; exact hq.1.2.2.2.1
theorem cs_56 (h : cs_ok z σ S) (hf : σ (0, 0) 6 = 1) (hfr : fr_56 σ σ1) (h5 : ∃ q, es_ok z σ1 5 q) (h6 : ∃ q, es_ok z σ1 6 q) : cs_ok z σ1 S := by
  obtain ⟨hL, hp, qw, bw, hw1, hw2⟩ := h.2.2.2.2 hf
  refine cs_set h hfr.cq (fun j hj => ?_) (fun _ => ⟨fun s hs => ?_, qw, bw, hfr.gp (by omega) hw1, hw2⟩)
  · by_cases e5 : j = 5
    · rw [e5]; exact h5
    · by_cases e6 : j = 6
      · rw [e6]; exact h6
      · obtain ⟨q, hq⟩ := h.2.2.2.1 j hj
        exact ⟨q, hfr.es ⟨e5, e6⟩ hq⟩
  · obtain ⟨q1, b1, h1, h2⟩ := hp s hs
    exact ⟨q1, b1, hfr.gp (by omega) h1, h2⟩
/-- the set of kindred alone changes -/
theorem cs_7 (h : cs_ok z σ S) (hf : σ (0, 0) 6 = 1) (hfr : es_fr 7 σ σ1) (h7 : ∃ q, es_ok z σ1 7 q) : cs_ok z σ1 S ∧ cs_q σ σ1 := by
  have h9 := cs_side h hf (j := 7) (by decide) hfr.sg h7
  exact ⟨h9.1, hfr.cq⟩
/-- letters generate -/
theorem gr_gen (hL : lo_ok z σ 0) : ∀ x, x < zz_N z → gp_gn (zz_N z) (gr_p z σ) (fun y => ∃ t, t < zz_n z ∧ y = σ (3, 0) t) x := by
  obtain ⟨⟨-, -, -, -, hw, hsz, -⟩, hk, -⟩ := hL
  intro x hx
  rw [hsz] at hx ⊢
  exact tw_gn hw hk x hx
theorem gr_let (hL : lo_ok z σ 0) : ∀ y, (∃ t, t < zz_n z ∧ y = σ (3, 0) t) → y < zz_N z := by
  obtain ⟨⟨-, -, -, -, hw, hsz, -⟩, hk, -⟩ := hL
  rintro y ⟨t, ht, rfl⟩
  rw [hsz]; exact hw.ltN ht
/-- the row bears conjugation by the letters -/
def kn_ok (z : zz_Z) (σ : hw_M) (q : List Nat) : Prop := ∀ x t, x ∈ q → t < zz_n z → gp_cj (zz_N z) (gr_p z σ) x (σ (3, 0) t) ∈ q
theorem kn_all {q : List Nat} (hL : lo_ok z σ 0) (hq : ∀ x, x ∈ q → x < zz_N z) (h : kn_ok z σ q) : ∀ x s, x ∈ q → s < zz_N z → gp_cj (zz_N z) (gr_p z σ) x s ∈ q :=
  gp_orbit (lo_gp hL) (gr_let hL) (gr_gen hL) hq (fun x s hx hs => by obtain ⟨t, ht, rfl⟩ := hs; exact h x t hx ht)
theorem kn_end {q q1 : List Nat} {a : Nat} (hL : lo_ok z σ 0) (ha : a < zz_N z) (hq : ∀ x, x ∈ q1 → x < zz_N z) (hin : ∀ x, x ∈ q → x ∈ q1) (ha1 : a ∈ q1) (hx : ∀ x, x ∈ q1 → x ∈ q ∨ sp_kin (zz_N z) (gr_p z σ) a x) (hk : kn_ok z σ q1) : ∀ x, x ∈ q1 ↔ x ∈ q ∨ sp_kin (zz_N z) (gr_p z σ) a x :=
  fun x => ⟨hx x, fun h => h.elim (hin x) (fun ⟨b, hb, e⟩ => by rw [e]; exact kn_all hL hq hk a b ha1 hb)⟩
theorem kn_step {a x t : Nat} (g : gp_ok (zz_N z) (gr_p z σ)) (ha : a < zz_N z) (ht : t < zz_N z) (h : sp_kin (zz_N z) (gr_p z σ) a x) : sp_kin (zz_N z) (gr_p z σ) a (gp_cj (zz_N z) (gr_p z σ) x t) := by
  obtain ⟨b, hb, rfl⟩ := h
  exact ⟨gr_p z σ b t, g.lt hb ht, (g.cjc ha hb ht).symm⟩
theorem kn_self {a : Nat} (g : gp_ok (zz_N z) (gr_p z σ)) (ha : a < zz_N z) : sp_kin (zz_N z) (gr_p z σ) a a := ⟨0, g.pos, (g.cj0 ha).symm⟩
theorem kn_sym {a x : Nat} (g : gp_ok (zz_N z) (gr_p z σ)) (ha : a < zz_N z) (h : sp_kin (zz_N z) (gr_p z σ) a x) : sp_kin (zz_N z) (gr_p z σ) x a := by
  obtain ⟨b, hb, rfl⟩ := h
  exact ⟨gp_iv (zz_N z) (gr_p z σ) b, g.ivl hb, (g.cji ha hb).symm⟩
end
section
variable {z : zz_Z} {σ σ1 : hw_M}
theorem kn_mv {q : List Nat} (e : gr_p z σ1 = gr_p z σ) (e3 : σ1 (3, 0) = σ (3, 0)) (h : kn_ok z σ q) : kn_ok z σ1 q := by
  intro x t hx ht
  rw [e, e3]
  exact h x t hx ht
theorem kn_tr {a b x : Nat} (g : gp_ok (zz_N z) (gr_p z σ)) (ha : a < zz_N z) (h : sp_kin (zz_N z) (gr_p z σ) a b) (h2 : sp_kin (zz_N z) (gr_p z σ) b x) : sp_kin (zz_N z) (gr_p z σ) a x := by
  obtain ⟨t, ht, rfl⟩ := h2
  exact kn_step g ha ht h
theorem kn_lt {a x : Nat} (g : gp_ok (zz_N z) (gr_p z σ)) (ha : a < zz_N z) (h : sp_kin (zz_N z) (gr_p z σ) a x) : x < zz_N z := by
  obtain ⟨t, ht, rfl⟩ := h
  exact g.cjl ha ht
theorem kn_nl {a : Nat} (g : gp_ok (zz_N z) (gr_p z σ)) (ha : a < zz_N z) (h : ∃ b, b < a ∧ sp_kin (zz_N z) (gr_p z σ) b a) : ¬ sp_least (zz_N z) (gr_p z σ) a := by
  obtain ⟨b, hb, h1⟩ := h
  obtain ⟨t, ht, e⟩ := kn_sym g (by omega) h1
  intro h2
  have := h2 t ht
  omega
theorem kn_l {a : Nat} (g : gp_ok (zz_N z) (gr_p z σ)) (ha : a < zz_N z) (h : ¬ ∃ b, b < a ∧ sp_kin (zz_N z) (gr_p z σ) b a) : sp_least (zz_N z) (gr_p z σ) a := by
  intro b hb
  apply Nat.le_of_not_lt
  intro q
  exact h ⟨_, q, kn_sym g ha ⟨b, hb, rfl⟩⟩
theorem kn_same {a : Nat} {q : List Nat} (g : gp_ok (zz_N z) (gr_p z σ)) (ha : a < zz_N z) (hin : a ∈ q) (hx : ∀ x, x ∈ q ↔ ∃ b, b < a ∧ sp_kin (zz_N z) (gr_p z σ) b x) : ∀ x, x ∈ q ↔ ∃ b, b < a + 1 ∧ sp_kin (zz_N z) (gr_p z σ) b x := by
  intro x
  refine (hx x).trans ⟨fun ⟨b, h1, h2⟩ => ⟨b, by omega, h2⟩, fun ⟨b, h1, h2⟩ => ?_⟩
  by_cases e : b = a
  · rw [e] at h2
    obtain ⟨b', h3, h4⟩ := (hx a).mp hin
    exact ⟨b', h3, kn_tr g (by omega) h4 h2⟩
  · exact ⟨b, by omega, h2⟩
end
