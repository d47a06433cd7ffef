/-! Groups on the numbers below N: words of my own, no machine here. -/
/-- more numbers than places: two are alike -/
theorem gp_ph : ∀ (N : Nat) (f : Nat → Nat), (∀ i, i ≤ N → f i < N) → ∃ i j, i < j ∧ j ≤ N ∧ f i = f j := by
  intro N
  induction N with
  | zero => intro f h; exact absurd (h 0 (Nat.le_refl 0)) (Nat.not_lt_zero _)
  | succ N ih =>
    intro f h
    by_cases hv : ∃ i, i ≤ N ∧ f i = f (N + 1)
    · obtain ⟨i, hi, e⟩ := hv
      exact ⟨i, N + 1, by omega, Nat.le_refl _, e⟩
    · have hv' : ∀ i, i ≤ N → f i ≠ f (N + 1) := fun i hi e => hv ⟨i, hi, e⟩
      have hl := h (N + 1) (Nat.le_refl _)
      obtain ⟨i, j, hij, hj, e⟩ := ih (fun i => if f i = N then f (N + 1) else f i) (by
        intro i hi
        have h1 := hv' i hi
        have h2 := h i (by omega)
        by_cases hN : f i = N
        · simp only [hN, if_true]; omega
        · simp only [hN, if_false]; omega)
      refine ⟨i, j, hij, by omega, ?_⟩
      have h1 := hv' i (by omega)
      have h2 := hv' j hj
      try dsimp only at e
      by_cases hi : f i = N <;> by_cases hjN : f j = N <;> simp only [hi, hjN, if_true, if_false] at e <;> omega
/-- M different numbers below K: M is at most K -/
theorem gp_inj {M K : Nat} (f : Nat → Nat) (h : ∀ i, i < M → f i < K) (hi : ∀ i j, i < M → j < M → f i = f j → i = j) : M ≤ K := by
  apply Nat.le_of_not_lt
  intro hMK
  obtain ⟨i, j, h1, h2, e⟩ := gp_ph K f (fun i hi => h i (by omega))
  have := hi i j (by omega) (by omega) e
  omega
def gp_ok (N : Nat) (o : Nat → Nat → Nat) : Prop :=
  0 < N ∧ (∀ a b, a < N → b < N → o a b < N) ∧ (∀ a, a < N → o 0 a = a) ∧ (∀ a, a < N → o a 0 = a) ∧
    (∀ a b c, a < N → b < N → c < N → o (o a b) c = o a (o b c)) ∧ (∀ a, a < N → ∃ b, b < N ∧ o a b = 0)
theorem gp_ok.pos {N : Nat} {o : Nat → Nat → Nat} (g : gp_ok N o) : 0 < N := g.1
theorem gp_ok.lt {N : Nat} {o : Nat → Nat → Nat} (g : gp_ok N o) {a b : Nat} (ha : a < N) (hb : b < N) : o a b < N := g.2.1 a b ha hb
theorem gp_ok.l0 {N : Nat} {o : Nat → Nat → Nat} (g : gp_ok N o) {a : Nat} (ha : a < N) : o 0 a = a := g.2.2.1 a ha
theorem gp_ok.r0 {N : Nat} {o : Nat → Nat → Nat} (g : gp_ok N o) {a : Nat} (ha : a < N) : o a 0 = a := g.2.2.2.1 a ha
theorem gp_ok.as {N : Nat} {o : Nat → Nat → Nat} (g : gp_ok N o) {a b c : Nat} (ha : a < N) (hb : b < N) (hc : c < N) : o (o a b) c = o a (o b c) := g.2.2.2.2.1 a b c ha hb hc
noncomputable def gp_iv (N : Nat) (o : Nat → Nat → Nat) (a : Nat) : Nat := Classical.epsilon (fun b => b < N ∧ o a b = 0)
theorem gp_ok.ivs {N : Nat} {o : Nat → Nat → Nat} (g : gp_ok N o) {a : Nat} (ha : a < N) : gp_iv N o a < N ∧ o a (gp_iv N o a) = 0 :=
  Classical.epsilon_spec (g.2.2.2.2.2 a ha)
theorem gp_ok.ivl {N : Nat} {o : Nat → Nat → Nat} (g : gp_ok N o) {a : Nat} (ha : a < N) : gp_iv N o a < N := (g.ivs ha).1
theorem gp_ok.riv {N : Nat} {o : Nat → Nat → Nat} (g : gp_ok N o) {a : Nat} (ha : a < N) : o a (gp_iv N o a) = 0 := (g.ivs ha).2
theorem gp_ok.liv {N : Nat} {o : Nat → Nat → Nat} (g : gp_ok N o) {a : Nat} (ha : a < N) : o (gp_iv N o a) a = 0 := by
  obtain ⟨hb, h1⟩ := g.ivs ha
  obtain ⟨hc, h2⟩ := g.ivs hb
  have e : a = gp_iv N o (gp_iv N o a) := by
    have h3 := g.as ha hb hc
    rw [h1, h2, g.l0 hc, g.r0 ha] at h3
    exact h3.symm
  rw [← e] at h2
  exact h2
theorem gp_ok.cl {N : Nat} {o : Nat → Nat → Nat} (g : gp_ok N o) {a x y : Nat} (ha : a < N) (hx : x < N) (hy : y < N) (h : o a x = o a y) : x = y := by
  have h1 := congrArg (o (gp_iv N o a)) h
  rw [← g.as (g.ivl ha) ha hx, ← g.as (g.ivl ha) ha hy, g.liv ha, g.l0 hx, g.l0 hy] at h1
  exact h1
theorem gp_ok.cr {N : Nat} {o : Nat → Nat → Nat} (g : gp_ok N o) {a x y : Nat} (ha : a < N) (hx : x < N) (hy : y < N) (h : o x a = o y a) : x = y := by
  have h1 := congrArg (fun z => o z (gp_iv N o a)) h
  try dsimp only at h1
  rw [g.as hx ha (g.ivl ha), g.as hy ha (g.ivl ha), g.riv ha, g.r0 hx, g.r0 hy] at h1
  exact h1
theorem gp_ok.ivu {N : Nat} {o : Nat → Nat → Nat} (g : gp_ok N o) {a b : Nat} (ha : a < N) (hb : b < N) (h : o a b = 0) : b = gp_iv N o a :=
  g.cl ha hb (g.ivl ha) (h.trans (g.riv ha).symm)
theorem gp_ok.ivu' {N : Nat} {o : Nat → Nat → Nat} (g : gp_ok N o) {a b : Nat} (ha : a < N) (hb : b < N) (h : o b a = 0) : b = gp_iv N o a :=
  g.cr ha hb (g.ivl ha) (h.trans (g.liv ha).symm)
theorem gp_ok.iv0 {N : Nat} {o : Nat → Nat → Nat} (g : gp_ok N o) : gp_iv N o 0 = 0 := (g.ivu g.pos g.pos (g.l0 g.pos)).symm
theorem gp_ok.iviv {N : Nat} {o : Nat → Nat → Nat} (g : gp_ok N o) {a : Nat} (ha : a < N) : gp_iv N o (gp_iv N o a) = a := (g.ivu (g.ivl ha) ha (g.liv ha)).symm
theorem gp_ok.ivo {N : Nat} {o : Nat → Nat → Nat} (g : gp_ok N o) {a b : Nat} (ha : a < N) (hb : b < N) : gp_iv N o (o a b) = o (gp_iv N o b) (gp_iv N o a) := by
  refine (g.ivu (g.lt ha hb) (g.lt (g.ivl hb) (g.ivl ha)) ?_).symm
  rw [g.as ha hb (g.lt (g.ivl hb) (g.ivl ha)), ← g.as hb (g.ivl hb) (g.ivl ha), g.riv hb, g.l0 (g.ivl ha), g.riv ha]
/-- k times a -/
def gp_pw (o : Nat → Nat → Nat) (a : Nat) : Nat → Nat
  | 0 => 0
  | k + 1 => o (gp_pw o a k) a
theorem gp_ok.pwl {N : Nat} {o : Nat → Nat → Nat} (g : gp_ok N o) {a : Nat} (ha : a < N) : ∀ k, gp_pw o a k < N
  | 0 => g.pos
  | k + 1 => g.lt (g.pwl ha k) ha
theorem gp_ok.pwa {N : Nat} {o : Nat → Nat → Nat} (g : gp_ok N o) {a : Nat} (ha : a < N) (i : Nat) : ∀ k, gp_pw o a (i + k) = o (gp_pw o a i) (gp_pw o a k)
  | 0 => (g.r0 (g.pwl ha i)).symm
  | k + 1 => by
    show o (gp_pw o a (i + k)) a = o (gp_pw o a i) (o (gp_pw o a k) a)
    rw [g.pwa ha i k, g.as (g.pwl ha i) (g.pwl ha k) ha]
theorem gp_ok.per {N : Nat} {o : Nat → Nat → Nat} (g : gp_ok N o) {a : Nat} (ha : a < N) : ∃ k, 1 ≤ k ∧ k ≤ N ∧ gp_pw o a k = 0 := by
  obtain ⟨i, j, hij, hj, e⟩ := gp_ph N (gp_pw o a) (fun i _ => g.pwl ha i)
  refine ⟨j - i, by omega, by omega, ?_⟩
  have h := g.pwa ha i (j - i)
  rw [show i + (j - i) = j by omega, ← e] at h
  exact (g.cl (g.pwl ha i) g.pos (g.pwl ha (j - i)) ((g.r0 (g.pwl ha i)).trans h)).symm
/-- subgroups, as sets -/
def gp_sb (N : Nat) (o : Nat → Nat → Nat) (S : Nat → Prop) : Prop := S 0 ∧ (∀ a, S a → a < N) ∧ ∀ a b, S a → S b → S (o a b)
theorem gp_sb.pw {N : Nat} {o : Nat → Nat → Nat} {S : Nat → Prop} (h : gp_sb N o S) {a : Nat} (ha : S a) : ∀ k, S (gp_pw o a k)
  | 0 => h.1
  | k + 1 => h.2.2 _ _ (h.pw ha k) ha
theorem gp_sb.iv {N : Nat} {o : Nat → Nat → Nat} {S : Nat → Prop} (h : gp_sb N o S) (g : gp_ok N o) {a : Nat} (ha : S a) : S (gp_iv N o a) := by
  have hl := h.2.1 a ha
  obtain ⟨k, h1, h2, e⟩ := g.per hl
  have e2 : gp_pw o a (k - 1) = gp_iv N o a := by
    refine g.ivu' hl (g.pwl hl _) ?_
    rw [← e]
    show gp_pw o a ((k - 1) + 1) = _
    rw [show k - 1 + 1 = k by omega]
  rw [← e2]
  exact h.pw ha _
/-- what X generates -/
def gp_gn (N : Nat) (o : Nat → Nat → Nat) (X : Nat → Prop) (a : Nat) : Prop := ∀ S : Nat → Prop, gp_sb N o S → (∀ x, X x → S x) → S a
theorem gp_gn.in {N : Nat} {o : Nat → Nat → Nat} {X : Nat → Prop} {a : Nat} (h : X a) : gp_gn N o X a := fun _ _ hX => hX a h
theorem gp_gn.le {N : Nat} {o : Nat → Nat → Nat} {X S : Nat → Prop} (hS : gp_sb N o S) (hX : ∀ x, X x → S x) {a : Nat} (h : gp_gn N o X a) : S a := h S hS hX
theorem gp_all {N : Nat} {o : Nat → Nat → Nat} (g : gp_ok N o) : gp_sb N o (fun a => a < N) := ⟨g.pos, fun _ h => h, fun _ _ h1 h2 => g.lt h1 h2⟩
theorem gp_gn.sb {N : Nat} {o : Nat → Nat → Nat} {X : Nat → Prop} (g : gp_ok N o) (hX : ∀ x, X x → x < N) : gp_sb N o (gp_gn N o X) :=
  ⟨fun S hS _ => hS.1, fun a h => h _ (gp_all g) hX, fun a b ha hb S hS h => hS.2.2 a b (ha S hS h) (hb S hS h)⟩
theorem gp_gn.mono {N : Nat} {o : Nat → Nat → Nat} {X Y : Nat → Prop} (h : ∀ x, X x → Y x) {a : Nat} (ha : gp_gn N o X a) : gp_gn N o Y a := fun S hS hY => ha S hS (fun x hx => hY x (h x hx))
/-- closed to the right under X from 0 on, and made of X: generated -/
theorem gp_gn.of {N : Nat} {o : Nat → Nat → Nat} {X S : Nat → Prop} (g : gp_ok N o) (hX : ∀ x, X x → x < N) (h0 : S 0) (hc : ∀ a x, S a → X x → S (o a x)) {b : Nat} (hb : gp_gn N o X b) : S b := by
  have key : ∀ a, gp_gn N o X a → ∀ s, s < N → S s → S (o s a) := by
    intro a ha
    have hsb : gp_sb N o (fun a => a < N ∧ ∀ s, s < N → S s → S (o s a)) := by
      refine ⟨⟨g.pos, fun s hl hs => by rw [g.r0 hl]; exact hs⟩, fun a h => h.1, fun a b h1 h2 => ⟨g.lt h1.1 h2.1, fun s hl hs => ?_⟩⟩
      rw [← g.as hl h1.1 h2.1]
      exact h2.2 _ (g.lt hl h1.1) (h1.2 s hl hs)
    exact (ha _ hsb (fun x hx => ⟨hX x hx, fun s _ hs => hc s x hs hx⟩)).2
  have h := key b hb 0 g.pos h0
  rwa [g.l0 ((gp_gn.sb g hX).2.1 b hb)] at h
/-- conjugates and commutators -/
noncomputable def gp_cj (N : Nat) (o : Nat → Nat → Nat) (a b : Nat) : Nat := o (o (gp_iv N o b) a) b
noncomputable def gp_cm (N : Nat) (o : Nat → Nat → Nat) (a b : Nat) : Nat := o (gp_iv N o a) (gp_cj N o a b)
theorem gp_ok.cjl {N : Nat} {o : Nat → Nat → Nat} (g : gp_ok N o) {a b : Nat} (ha : a < N) (hb : b < N) : gp_cj N o a b < N := g.lt (g.lt (g.ivl hb) ha) hb
theorem gp_ok.cml {N : Nat} {o : Nat → Nat → Nat} (g : gp_ok N o) {a b : Nat} (ha : a < N) (hb : b < N) : gp_cm N o a b < N := g.lt (g.ivl ha) (g.cjl ha hb)
theorem gp_ok.cj_0 {N : Nat} {o : Nat → Nat → Nat} (g : gp_ok N o) {b : Nat} (hb : b < N) : gp_cj N o 0 b = 0 := by
  unfold gp_cj
  rw [g.r0 (g.ivl hb), g.liv hb]
theorem gp_ok.cj0 {N : Nat} {o : Nat → Nat → Nat} (g : gp_ok N o) {a : Nat} (ha : a < N) : gp_cj N o a 0 = a := by
  unfold gp_cj
  rw [g.iv0, g.l0 ha, g.r0 ha]
/-- b times the conjugate by b is a times b -/
theorem gp_ok.cjm {N : Nat} {o : Nat → Nat → Nat} (g : gp_ok N o) {a b : Nat} (ha : a < N) (hb : b < N) : o b (gp_cj N o a b) = o a b := by
  unfold gp_cj
  rw [g.as (g.ivl hb) ha hb, ← g.as hb (g.ivl hb) (g.lt ha hb), g.riv hb, g.l0 (g.lt ha hb)]
theorem gp_ok.cju {N : Nat} {o : Nat → Nat → Nat} (g : gp_ok N o) {a b x : Nat} (ha : a < N) (hb : b < N) (hx : x < N) (h : o b x = o a b) : x = gp_cj N o a b :=
  g.cl hb hx (g.cjl ha hb) (h.trans (g.cjm ha hb).symm)
theorem gp_ok.cjo {N : Nat} {o : Nat → Nat → Nat} (g : gp_ok N o) {a b c : Nat} (ha : a < N) (hb : b < N) (hc : c < N) : gp_cj N o (o a b) c = o (gp_cj N o a c) (gp_cj N o b c) := by
  refine (g.cju (g.lt ha hb) hc (g.lt (g.cjl ha hc) (g.cjl hb hc)) ?_).symm
  rw [← g.as hc (g.cjl ha hc) (g.cjl hb hc), g.cjm ha hc, g.as ha hc (g.cjl hb hc), g.cjm hb hc, g.as ha hb hc]
theorem gp_ok.cjc {N : Nat} {o : Nat → Nat → Nat} (g : gp_ok N o) {a b c : Nat} (ha : a < N) (hb : b < N) (hc : c < N) : gp_cj N o a (o b c) = gp_cj N o (gp_cj N o a b) c := by
  refine (g.cju ha (g.lt hb hc) (g.cjl (g.cjl ha hb) hc) ?_).symm
  rw [g.as hb hc (g.cjl (g.cjl ha hb) hc), g.cjm (g.cjl ha hb) hc, ← g.as hb (g.cjl ha hb) hc, g.cjm ha hb, g.as ha hb hc]
theorem gp_ok.cji {N : Nat} {o : Nat → Nat → Nat} (g : gp_ok N o) {a b : Nat} (ha : a < N) (hb : b < N) : gp_cj N o (gp_cj N o a b) (gp_iv N o b) = a := by
  rw [← g.cjc ha hb (g.ivl hb), g.riv hb, g.cj0 ha]
/-- b, then a, then their commutator: a, then b -/
theorem gp_ok.cmm {N : Nat} {o : Nat → Nat → Nat} (g : gp_ok N o) {a b : Nat} (ha : a < N) (hb : b < N) : o a (gp_cm N o a b) = gp_cj N o a b := by
  unfold gp_cm
  rw [← g.as ha (g.ivl ha) (g.cjl ha hb), g.riv ha, g.l0 (g.cjl ha hb)]
theorem gp_ok.cmu {N : Nat} {o : Nat → Nat → Nat} (g : gp_ok N o) {a b x : Nat} (ha : a < N) (hb : b < N) (hx : x < N) (h : o a x = gp_cj N o a b) : x = gp_cm N o a b :=
  g.cl ha hx (g.cml ha hb) (h.trans (g.cmm ha hb).symm)
/-- the commutator of a product: [a b, c] is the conjugate of [a, c] by b, then [b, c] -/
theorem gp_ok.cm1 {N : Nat} {o : Nat → Nat → Nat} (g : gp_ok N o) {a b c : Nat} (ha : a < N) (hb : b < N) (hc : c < N) : gp_cm N o (o a b) c = o (gp_cj N o (gp_cm N o a c) b) (gp_cm N o b c) := by
  have h1 := g.cml ha hc
  have h2 := g.cml hb hc
  refine (g.cmu (g.lt ha hb) hc (g.lt (g.cjl h1 hb) h2) ?_).symm
  rw [g.as ha hb (g.lt (g.cjl h1 hb) h2), ← g.as hb (g.cjl h1 hb) h2, g.cjm h1 hb, g.as h1 hb h2, g.cmm hb hc, ← g.as ha h1 (g.cjl hb hc), g.cmm ha hc, g.cjo ha hb hc]
/-- [a, b c] is [a, c], then the conjugate of [a, b] by c -/
theorem gp_ok.cm2 {N : Nat} {o : Nat → Nat → Nat} (g : gp_ok N o) {a b c : Nat} (ha : a < N) (hb : b < N) (hc : c < N) : gp_cm N o a (o b c) = o (gp_cm N o a c) (gp_cj N o (gp_cm N o a b) c) := by
  have h1 := g.cml ha hc
  have h2 := g.cml ha hb
  refine (g.cmu ha (g.lt hb hc) (g.lt h1 (g.cjl h2 hc)) ?_).symm
  rw [← g.as ha h1 (g.cjl h2 hc), g.cmm ha hc, ← g.cjo ha h2 hc, g.cmm ha hb, g.cjc ha hb hc]
theorem gp_ok.cm0 {N : Nat} {o : Nat → Nat → Nat} (g : gp_ok N o) {b : Nat} (hb : b < N) : gp_cm N o 0 b = 0 := by
  unfold gp_cm
  rw [g.cj_0 hb, g.iv0, g.l0 g.pos]
theorem gp_ok.cm_0 {N : Nat} {o : Nat → Nat → Nat} (g : gp_ok N o) {a : Nat} (ha : a < N) : gp_cm N o a 0 = 0 := by
  unfold gp_cm
  rw [g.cj0 ha, g.liv ha]
