/-! Subgroups: conjugates of what generates, commutators of what generates; counting. -/
section
variable {N : Nat} {o : Nat → Nat → Nat}
theorem gp_nrm (g : gp_ok N o) {X K : Nat → Prop} (hK : gp_sb N o K) (hX : ∀ x, X x → x < N) (h : ∀ k x, K k → X x → K (gp_cj N o k x)) : ∀ k s, K k → gp_gn N o X s → K (gp_cj N o k s) := by
  intro k s hk hs
  have hsb : gp_sb N o (fun s => s < N ∧ ∀ k, K k → K (gp_cj N o k s)) := by
    refine ⟨⟨g.pos, fun k hk => by rw [g.cj0 (hK.2.1 k hk)]; exact hk⟩, fun a h => h.1, fun a b h1 h2 => ⟨g.lt h1.1 h2.1, fun k hk => ?_⟩⟩
    rw [g.cjc (hK.2.1 k hk) h1.1 h2.1]
    exact h2.2 _ (h1.2 k hk)
  exact (hs _ hsb (fun x hx => ⟨hX x hx, fun k hk => h k x hk hx⟩)).2 k hk
theorem gp_cjg (g : gp_ok N o) {Y K : Nat → Prop} (hK : gp_sb N o K) (hY : ∀ y, Y y → y < N) {s : Nat} (hs : s < N) (h : ∀ y, Y y → K (gp_cj N o y s)) : ∀ k, gp_gn N o Y k → K (gp_cj N o k s) := by
  intro k hk
  have hsb : gp_sb N o (fun k => k < N ∧ K (gp_cj N o k s)) := by
    refine ⟨⟨g.pos, by rw [g.cj_0 hs]; exact hK.1⟩, fun a h => h.1, fun a b h1 h2 => ⟨g.lt h1.1 h2.1, ?_⟩⟩
    rw [g.cjo h1.1 h2.1 hs]
    exact hK.2.2 _ _ h1.2 h2.2
  exact (hk _ hsb (fun y hy => ⟨hY y hy, h y hy⟩)).2
/-- commutators of what generates are enough, if K bears conjugation by both -/
theorem gp_cmg (g : gp_ok N o) {X Y K : Nat → Prop} (hX : ∀ x, X x → x < N) (hY : ∀ y, Y y → y < N) (hK : gp_sb N o K) (hS : ∀ k s, K k → gp_gn N o X s → K (gp_cj N o k s)) (hT : ∀ k t, K k → gp_gn N o Y t → K (gp_cj N o k t))
    (h : ∀ x y, X x → Y y → K (gp_cm N o x y)) : ∀ s t, gp_gn N o X s → gp_gn N o Y t → K (gp_cm N o s t) := by
  intro s t hs ht
  have hSl := (gp_gn.sb g hX).2.1
  have hTl := (gp_gn.sb g hY).2.1
  have h1 : ∀ y, Y y → K (gp_cm N o s y) := by
    intro y hy
    have hsb : gp_sb N o (fun s => gp_gn N o X s ∧ K (gp_cm N o s y)) := by
      refine ⟨⟨(gp_gn.sb g hX).1, by rw [g.cm0 (hY y hy)]; exact hK.1⟩, fun a h => hSl a h.1, fun a b ha hb => ⟨(gp_gn.sb g hX).2.2 a b ha.1 hb.1, ?_⟩⟩
      rw [g.cm1 (hSl a ha.1) (hSl b hb.1) (hY y hy)]
      exact hK.2.2 _ _ (hS _ b ha.2 hb.1) hb.2
    exact (hs _ hsb (fun x hx => ⟨gp_gn.in hx, h x y hx hy⟩)).2
  have hsb : gp_sb N o (fun t => gp_gn N o Y t ∧ K (gp_cm N o s t)) := by
    refine ⟨⟨(gp_gn.sb g hY).1, by rw [g.cm_0 (hSl s hs)]; exact hK.1⟩, fun a h => hTl a h.1, fun a b ha hb => ⟨(gp_gn.sb g hY).2.2 a b ha.1 hb.1, ?_⟩⟩
    rw [g.cm2 (hSl s hs) (hTl a ha.1) (hTl b hb.1)]
    exact hK.2.2 _ _ hb.2 (hT _ b ha.2 hb.1)
  exact (ht _ hsb (fun y hy => ⟨gp_gn.in hy, h1 y hy⟩)).2
/-- the commutator subgroup of two sets -/
def gp_cs (N : Nat) (o : Nat → Nat → Nat) (S T : Nat → Prop) : Nat → Prop := gp_gn N o (fun c => ∃ s t, S s ∧ T t ∧ c = gp_cm N o s t)
theorem gp_cs.sb (g : gp_ok N o) {S T : Nat → Prop} (hS : gp_sb N o S) (hT : gp_sb N o T) : gp_sb N o (gp_cs N o S T) :=
  gp_gn.sb g (fun x hx => by obtain ⟨s, t, h1, h2, rfl⟩ := hx; exact g.cml (hS.2.1 s h1) (hT.2.1 t h2))
theorem gp_cs.in {S T : Nat → Prop} {s t : Nat} (hs : S s) (ht : T t) : gp_cs N o S T (gp_cm N o s t) := gp_gn.in ⟨s, t, hs, ht, rfl⟩
theorem gp_cs.cj1 (g : gp_ok N o) {S T : Nat → Prop} (hS : gp_sb N o S) (hT : gp_sb N o T) {s k : Nat} (hs : S s) (hk : gp_cs N o S T k) : gp_cs N o S T (gp_cj N o k s) := by
  have hC := gp_cs.sb g hS hT
  refine gp_cjg g hC (fun x hx => by obtain ⟨s, t, h1, h2, rfl⟩ := hx; exact g.cml (hS.2.1 s h1) (hT.2.1 t h2)) (hS.2.1 s hs) (fun y hy => ?_) k hk
  obtain ⟨a, t, h1, h2, rfl⟩ := hy
  have la := hS.2.1 a h1
  have ls := hS.2.1 s hs
  have lt := hT.2.1 t h2
  have h3 := g.cm1 la ls lt
  have h4 : gp_cj N o (gp_cm N o a t) s = o (gp_cm N o (o a s) t) (gp_iv N o (gp_cm N o s t)) := by
    rw [h3, g.as (g.cjl (g.cml la lt) ls) (g.cml ls lt) (g.ivl (g.cml ls lt)), g.riv (g.cml ls lt), g.r0 (g.cjl (g.cml la lt) ls)]
  rw [h4]
  exact hC.2.2 _ _ (gp_cs.in (hS.2.2 a s h1 hs) h2) (hC.iv g (gp_cs.in hs h2))
theorem gp_cs.cj2 (g : gp_ok N o) {S T : Nat → Prop} (hS : gp_sb N o S) (hT : gp_sb N o T) {t k : Nat} (ht : T t) (hk : gp_cs N o S T k) : gp_cs N o S T (gp_cj N o k t) := by
  have hC := gp_cs.sb g hS hT
  refine gp_cjg g hC (fun x hx => by obtain ⟨s, t, h1, h2, rfl⟩ := hx; exact g.cml (hS.2.1 s h1) (hT.2.1 t h2)) (hT.2.1 t ht) (fun y hy => ?_) k hk
  obtain ⟨s, b, h1, h2, rfl⟩ := hy
  have ls := hS.2.1 s h1
  have lb := hT.2.1 b h2
  have lt := hT.2.1 t ht
  have h3 := g.cm2 ls lb lt
  have h4 : gp_cj N o (gp_cm N o s b) t = o (gp_iv N o (gp_cm N o s t)) (gp_cm N o s (o b t)) := by
    rw [h3, ← g.as (g.ivl (g.cml ls lt)) (g.cml ls lt) (g.cjl (g.cml ls lb) lt), g.liv (g.cml ls lt), g.l0 (g.cjl (g.cml ls lb) lt)]
  rw [h4]
  exact hC.2.2 _ _ (hC.iv g (gp_cs.in h1 ht)) (gp_cs.in h1 (hT.2.2 b t h2 ht))
end
/-! counting -/
def gp_ct (p : Nat → Bool) : Nat → Nat
  | 0 => 0
  | n + 1 => gp_ct p n + if p n = true then 1 else 0
theorem gp_ct_le (p : Nat → Bool) : ∀ n, gp_ct p n ≤ n
  | 0 => Nat.le_refl _
  | n + 1 => by
    have := gp_ct_le p n
    show gp_ct p n + (if p n = true then 1 else 0) ≤ n + 1
    split <;> omega
theorem gp_ct_congr {p q : Nat → Bool} : ∀ {n : Nat}, (∀ a, a < n → p a = q a) → gp_ct p n = gp_ct q n
  | 0, _ => rfl
  | n + 1, h => by
    show gp_ct p n + _ = gp_ct q n + _
    rw [gp_ct_congr (fun a ha => h a (by omega)), h n (by omega)]
theorem gp_ct_none {p : Nat → Bool} : ∀ {n : Nat}, (∀ a, a < n → p a = false) → gp_ct p n = 0
  | 0, _ => rfl
  | n + 1, h => by
    show gp_ct p n + _ = 0
    rw [gp_ct_none (fun a ha => h a (by omega)), h n (by omega)]
    rfl
theorem gp_ct_add {p q : Nat → Bool} {x : Nat} (hx : p x = false) (hq : q x = true) (hr : ∀ a, a ≠ x → q a = p a) : ∀ {n : Nat}, x < n → gp_ct q n = gp_ct p n + 1
  | 0, h => absurd h (Nat.not_lt_zero _)
  | n + 1, h => by
    show gp_ct q n + (if q n = true then 1 else 0) = gp_ct p n + (if p n = true then 1 else 0) + 1
    by_cases e : x = n
    · subst e
      rw [gp_ct_congr (p := q) (q := p) (fun a ha => hr a (by omega)), hq, hx]
      simp
    · rw [gp_ct_add hx hq hr (n := n) (by omega), hr n (fun z => e z.symm)]
      omega
/-- the members of p in a row -/
theorem gp_enum (p : Nat → Bool) : ∀ n, ∃ e : Nat → Nat, (∀ i, i < gp_ct p n → e i < n ∧ p (e i) = true) ∧ (∀ i j, i < gp_ct p n → j < gp_ct p n → e i = e j → i = j) ∧ ∀ x, x < n → p x = true → ∃ i, i < gp_ct p n ∧ e i = x := by
  intro n
  induction n with
  | zero => exact ⟨fun _ => 0, fun i h => absurd h (Nat.not_lt_zero _), fun i j h => absurd h (Nat.not_lt_zero _), fun x h => absurd h (Nat.not_lt_zero _)⟩
  | succ n ih =>
    obtain ⟨e, h1, h2, h3⟩ := ih
    by_cases hp : p n = true
    · have hc : gp_ct p (n + 1) = gp_ct p n + 1 := by show gp_ct p n + _ = _; rw [hp]; rfl
      rw [hc]
      refine ⟨fun i => if i = gp_ct p n then n else e i, fun i hi => ?_, fun i j hi hj he => ?_, fun x hx hpx => ?_⟩
      · by_cases hin : i = gp_ct p n
        · simp only [hin, if_true]; exact ⟨by omega, hp⟩
        · simp only [hin, if_false]
          have := h1 i (by omega)
          exact ⟨by omega, this.2⟩
      · dsimp only at he
        by_cases hin : i = gp_ct p n <;> by_cases hjn : j = gp_ct p n <;> simp only [hin, hjn, if_true, if_false] at he
        · omega
        · have := (h1 j (by omega)).1; omega
        · have := (h1 i (by omega)).1; omega
        · exact h2 i j (by omega) (by omega) he
      · by_cases hxn : x = n
        · exact ⟨gp_ct p n, by omega, by simp only [if_true]; exact hxn.symm⟩
        · obtain ⟨i, hi, he⟩ := h3 x (by omega) hpx
          refine ⟨i, by omega, ?_⟩
          have : i ≠ gp_ct p n := by omega
          simp only [this, if_false]
          exact he
    · have hc : gp_ct p (n + 1) = gp_ct p n := by show gp_ct p n + _ = _; rw [if_neg hp]; rfl
      rw [hc]
      refine ⟨e, fun i hi => ⟨by have := (h1 i hi).1; omega, (h1 i hi).2⟩, h2, fun x hx hpx => ?_⟩
      by_cases hxn : x = n
      · subst hxn; exact absurd hpx hp
      · exact h3 x (by omega) hpx
theorem gp_ct_inj {p q : Nat → Bool} {n m : Nat} (f : Nat → Nat) (hf : ∀ x, x < n → p x = true → f x < m ∧ q (f x) = true) (hi : ∀ x y, x < n → y < n → p x = true → p y = true → f x = f y → x = y) : gp_ct p n ≤ gp_ct q m := by
  obtain ⟨e, e1, e2, e3⟩ := gp_enum p n
  obtain ⟨d, d1, d2, d3⟩ := gp_enum q m
  have hr : ∀ i, ∃ j, i < gp_ct p n → j < gp_ct q m ∧ d j = f (e i) := by
    intro i
    by_cases h : i < gp_ct p n
    · obtain ⟨h1, h2⟩ := e1 i h
      obtain ⟨h3, h4⟩ := hf _ h1 h2
      obtain ⟨j, h5, h6⟩ := d3 _ h3 h4
      exact ⟨j, fun _ => ⟨h5, h6⟩⟩
    · exact ⟨0, fun z => absurd z h⟩
  refine gp_inj (fun i => Classical.choose (hr i)) (fun i h => (Classical.choose_spec (hr i) h).1) (fun i j hi' hj' he => ?_)
  have a := (Classical.choose_spec (hr i) hi').2
  have b := (Classical.choose_spec (hr j) hj').2
  try dsimp only at he
  rw [he] at a
  have hef := a.symm.trans b
  exact e2 i j hi' hj' (hi _ _ (e1 i hi').1 (e1 j hj').1 (e1 i hi').2 (e1 j hj').2 hef)
/-- a subgroup within a larger one, not all of it: at most half -/
theorem gp_half {N : Nat} {o : Nat → Nat → Nat} (g : gp_ok N o) {p q : Nat → Bool} (hp : gp_sb N o (fun a => a < N ∧ p a = true)) (hq : gp_sb N o (fun a => a < N ∧ q a = true)) (hpq : ∀ a, a < N → p a = true → q a = true) {x : Nat} (hx : x < N) (hxq : q x = true) (hxp : p x = false) : 2 * gp_ct p N ≤ gp_ct q N := by
  obtain ⟨e, e1, e2, e3⟩ := gp_enum p N
  obtain ⟨d, d1, d2, d3⟩ := gp_enum q N
  have F : ∀ i, i < 2 * gp_ct p N → ∃ j, j < gp_ct q N ∧ d j = if i < gp_ct p N then e i else o x (e (i - gp_ct p N)) := by
    intro i hi
    by_cases h : i < gp_ct p N
    · simp only [h, if_true]
      exact d3 _ (e1 i h).1 (hpq _ (e1 i h).1 (e1 i h).2)
    · simp only [h, if_false]
      have h1 := e1 (i - gp_ct p N) (by omega)
      have h2 := hq.2.2 x _ ⟨hx, hxq⟩ ⟨h1.1, hpq _ h1.1 h1.2⟩
      exact d3 _ h2.1 h2.2
  have hr : ∀ i, ∃ j, i < 2 * gp_ct p N → j < gp_ct q N ∧ d j = if i < gp_ct p N then e i else o x (e (i - gp_ct p N)) := by
    intro i
    by_cases h : i < 2 * gp_ct p N
    · obtain ⟨j, hj⟩ := F i h
      exact ⟨j, fun _ => hj⟩
    · exact ⟨0, fun z => absurd z h⟩
  have no : ∀ i j, i < gp_ct p N → j < gp_ct p N → e i = o x (e j) → False := by
    intro i j hi hj he
    have h1 := e1 i hi
    have h2 := e1 j hj
    have h3 : o (e i) (gp_iv N o (e j)) = x := by
      rw [he, g.as hx h2.1 (g.ivl h2.1), g.riv h2.1, g.r0 hx]
    have h4 := (hp.2.2 (e i) _ h1 (hp.iv g h2)).2
    rw [h3, hxp] at h4
    cases h4
  refine gp_inj (fun i => Classical.choose (hr i)) (fun i h => (Classical.choose_spec (hr i) h).1) (fun i j hi hj he => ?_)
  have a := (Classical.choose_spec (hr i) hi).2
  have b := (Classical.choose_spec (hr j) hj).2
  try dsimp only at he
  rw [he] at a
  have hef := a.symm.trans b
  by_cases h1 : i < gp_ct p N <;> by_cases h2 : j < gp_ct p N <;> simp only [h1, h2, if_true, if_false] at hef
  · exact e2 i j h1 h2 hef
  · exact (no _ _ h1 (by omega) hef).elim
  · exact (no _ _ h2 (by omega) hef.symm).elim
  · have h3 := g.cl hx (e1 _ (by omega)).1 (e1 _ (by omega)).1 hef
    have := e2 _ _ (by omega) (by omega) h3
    omega
