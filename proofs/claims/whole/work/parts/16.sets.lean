/-! Rows of members without repetition; what the closing loops come to. -/
def ls_add (l : List Nat) (a : Nat) : List Nat := if a ∈ l then l else l ++ [a]
theorem ls_add_mem {l : List Nat} {a x : Nat} : x ∈ ls_add l a ↔ x ∈ l ∨ x = a := by
  unfold ls_add
  by_cases h : a ∈ l
  · rw [if_pos h]
    exact ⟨Or.inl, fun q => q.elim id (fun e => by rw [e]; exact h)⟩
  · rw [if_neg h, List.mem_append, List.mem_singleton]
theorem ls_add_nd {l : List Nat} {a : Nat} (h : l.Nodup) : (ls_add l a).Nodup := by
  unfold ls_add
  by_cases q : a ∈ l
  · rw [if_pos q]; exact h
  · rw [if_neg q]
    refine List.nodup_append.mpr ⟨h, by simp, ?_⟩
    intro x hx y hy e
    rw [List.mem_singleton] at hy
    rw [e, hy] at hx
    exact q hx
theorem ls_add_len {l : List Nat} {a : Nat} : l.length ≤ (ls_add l a).length := by
  unfold ls_add
  by_cases q : a ∈ l
  · rw [if_pos q]; exact Nat.le_refl _
  · rw [if_neg q, List.length_append]; omega
theorem ls_add_at {l : List Nat} {a i : Nat} (h : i < l.length) : (ls_add l a).getD i 0 = l.getD i 0 := by
  unfold ls_add
  by_cases q : a ∈ l
  · rw [if_pos q]
  · rw [if_neg q, List.getD_eq_getElem?_getD, List.getD_eq_getElem?_getD, List.getElem?_append_left h]
theorem ls_at_mem {l : List Nat} {i : Nat} (h : i < l.length) : l.getD i 0 ∈ l := by
  rw [List.getD_eq_getElem?_getD, List.getElem?_eq_getElem h]
  exact List.getElem_mem h
theorem ls_mem_at {l : List Nat} {x : Nat} (h : x ∈ l) : ∃ i, i < l.length ∧ l.getD i 0 = x := by
  obtain ⟨i, hi, e⟩ := List.mem_iff_getElem.mp h
  exact ⟨i, hi, by rw [List.getD_eq_getElem?_getD, List.getElem?_eq_getElem hi]; exact e⟩
/-- how many numbers below N are in a row without repetition -/
theorem ls_ct {N : Nat} : ∀ {l : List Nat}, l.Nodup → (∀ a, a ∈ l → a < N) → gp_ct (fun a => decide (a ∈ l)) N = l.length
  | [], _, _ => gp_ct_none (fun a _ => by simp)
  | a :: l, h, hN => by
    have h1 := List.nodup_cons.mp h
    rw [gp_ct_add (p := fun x => decide (x ∈ l)) (q := fun x => decide (x ∈ a :: l)) (x := a) (by simp [h1.1]) (by simp) (fun b hb => by simp [hb]) (hN a List.mem_cons_self), ls_ct h1.2 (fun b hb => hN b (List.mem_cons_of_mem _ hb)), List.length_cons]
theorem ls_le {N : Nat} {l : List Nat} (h : l.Nodup) (hN : ∀ a, a ∈ l → a < N) : l.length ≤ N := by
  rw [← ls_ct h hN]
  exact gp_ct_le _ _
/-- all of them: no room for another -/
theorem ls_full {N : Nat} {l : List Nat} (h : l.Nodup) (hN : ∀ a, a ∈ l → a < N) {a : Nat} (ha : a < N) (hn : a ∉ l) : l.length < N := by
  have h1 := ls_le (N := N) (l := ls_add l a) (ls_add_nd h) (fun x hx => by rcases ls_add_mem.mp hx with q | q; exact hN x q; rw [q]; exact ha)
  unfold ls_add at h1
  rw [if_neg hn, List.length_append] at h1
  have : [a].length = 1 := rfl
  omega
theorem ls_same {N : Nat} {l l' : List Nat} (h : l.Nodup) (hN : ∀ a, a ∈ l → a < N) (h' : l'.Nodup) (hN' : ∀ a, a ∈ l' → a < N) (e : ∀ x, x ∈ l ↔ x ∈ l') : l.length = l'.length := by
  rw [← ls_ct h hN, ← ls_ct h' hN']
  exact gp_ct_congr (fun a _ => by simp only [e a])
/-- a set's number of elements -/
noncomputable def cb_p (P : Nat → Prop) : Nat → Bool := fun a => @decide (P a) (Classical.propDecidable _)
theorem cb_p_t {P : Nat → Prop} {a : Nat} : cb_p P a = true ↔ P a := by
  unfold cb_p
  exact @decide_eq_true_iff (P a) (Classical.propDecidable _)
theorem cb_p_f {P : Nat → Prop} {a : Nat} : cb_p P a = false ↔ ¬ P a := by
  constructor
  · intro h q
    rw [cb_p_t.mpr q] at h
    cases h
  · intro h
    cases e : cb_p P a with
    | false => rfl
    | true => exact absurd (cb_p_t.mp e) h
noncomputable def gp_cd (N : Nat) (P : Nat → Prop) : Nat := gp_ct (cb_p P) N
theorem gp_cd_ls {N : Nat} {P : Nat → Prop} {l : List Nat} (h : l.Nodup) (hN : ∀ a, a ∈ l → a < N) (e : ∀ x, x < N → (x ∈ l ↔ P x)) : l.length = gp_cd N P := by
  rw [← ls_ct h hN]
  refine gp_ct_congr (fun a ha => ?_)
  have := e a ha
  by_cases q : P a
  · rw [cb_p_t.mpr q]; simp [this.mpr q]
  · rw [cb_p_f.mpr q]; exact decide_eq_false (fun z => q (this.mp z))
theorem gp_cd_congr {N : Nat} {P P' : Nat → Prop} (e : ∀ x, x < N → (P x ↔ P' x)) : gp_cd N P = gp_cd N P' :=
  gp_ct_congr (fun a ha => by
    by_cases q : P a
    · rw [cb_p_t.mpr q, cb_p_t.mpr ((e a ha).mp q)]
    · rw [cb_p_f.mpr q, cb_p_f.mpr (fun z => q ((e a ha).mpr z))])
theorem gp_cd_le (N : Nat) (P : Nat → Prop) : gp_cd N P ≤ N := gp_ct_le _ _
theorem gp_cd_half {N : Nat} {o : Nat → Nat → Nat} (g : gp_ok N o) {S T : Nat → Prop} (hS : gp_sb N o S) (hT : gp_sb N o T) (h : ∀ a, S a → T a) {x : Nat} (hx : T x) (hn : ¬ S x) : 2 * gp_cd N S ≤ gp_cd N T :=
  gp_half g (p := cb_p S) (q := cb_p T)
    ⟨⟨g.pos, cb_p_t.mpr hS.1⟩, fun a q => q.1, fun a b q1 q2 => ⟨g.lt q1.1 q2.1, cb_p_t.mpr (hS.2.2 a b (cb_p_t.mp q1.2) (cb_p_t.mp q2.2))⟩⟩
    ⟨⟨g.pos, cb_p_t.mpr hT.1⟩, fun a q => q.1, fun a b q1 q2 => ⟨g.lt q1.1 q2.1, cb_p_t.mpr (hT.2.2 a b (cb_p_t.mp q1.2) (cb_p_t.mp q2.2))⟩⟩
    (fun a _ q => cb_p_t.mpr (h a (cb_p_t.mp q))) (hT.2.1 x hx) (cb_p_t.mpr hx) (cb_p_f.mpr hn)
theorem gp_gn_ext {N : Nat} {o : Nat → Nat → Nat} {X Y : Nat → Prop} (h : ∀ x, X x ↔ Y x) (a : Nat) : gp_gn N o X a ↔ gp_gn N o Y a := ⟨gp_gn.mono (fun x => (h x).mp), gp_gn.mono (fun x => (h x).mpr)⟩
/-- a row closed under the basis to the right holds just what the basis generates -/
theorem ls_closed {N : Nat} {o : Nat → Nat → Nat} (g : gp_ok N o) {l bs : List Nat} (hb : ∀ b, b ∈ bs → b < N) (h0 : 0 ∈ l) (hg : ∀ x, x ∈ l → gp_gn N o (fun y => y ∈ bs) x) (hc : ∀ i, i < l.length → ∀ b, b ∈ bs → o (l.getD i 0) b ∈ l) : ∀ x, x ∈ l ↔ gp_gn N o (fun y => y ∈ bs) x := by
  intro x
  refine ⟨hg x, fun h => gp_gn.of (S := fun a => a ∈ l) g (fun x hx => hb x hx) h0 (fun a b ha hb' => ?_) h⟩
  obtain ⟨i, hi, e⟩ := ls_mem_at ha
  rw [← e]
  exact hc i hi b hb'
/-- one more generator that wasn't in it: twice as many at least -/
theorem ls_twice {N : Nat} {o : Nat → Nat → Nat} (g : gp_ok N o) {l l' bs bs' : List Nat} (h1 : l.Nodup) (h2 : ∀ a, a ∈ l → a < N) (h1' : l'.Nodup) (h2' : ∀ a, a ∈ l' → a < N) (hb : ∀ b, b ∈ bs → b < N) (hb' : ∀ b, b ∈ bs' → b < N) (e : ∀ x, x ∈ l ↔ gp_gn N o (fun y => y ∈ bs) x) (e' : ∀ x, x ∈ l' ↔ gp_gn N o (fun y => y ∈ bs') x) (hs : ∀ b, b ∈ bs → b ∈ bs') {a : Nat} (ha : a ∈ bs') (hn : a ∉ l) : 2 * l.length ≤ l'.length := by
  have hS := gp_gn.sb (X := fun y => y ∈ bs) g hb
  have hT := gp_gn.sb (X := fun y => y ∈ bs') g hb'
  have := gp_cd_half g hS hT (fun x hx => gp_gn.mono (fun y hy => hs y hy) hx) (x := a) (gp_gn.in ha) (fun q => hn ((e a).mpr q))
  rw [← gp_cd_ls h1 h2 (fun x _ => e x), ← gp_cd_ls h1' h2' (fun x _ => e' x)] at this
  exact this
/-- all conjugates of a subgroup, generated: by a basis that bears conjugation -/
theorem gp_spread {N : Nat} {o : Nat → Nat → Nat} (g : gp_ok N o) {bs bs' bw : List Nat} (hb : ∀ b, b ∈ bs → b < N) (hb' : ∀ b, b ∈ bs' → b < N) (hw : ∀ b, b ∈ bw → b < N) (hall : ∀ x, x < N → gp_gn N o (fun y => y ∈ bw) x)
    (hs : ∀ b, b ∈ bs → gp_gn N o (fun y => y ∈ bs') b) (hc : ∀ y b, y ∈ bs' → b ∈ bw → gp_gn N o (fun y => y ∈ bs') (gp_cj N o y b))
    (hm : ∀ K : Nat → Prop, gp_sb N o K → (∀ b, b ∈ bs → K b) → (∀ k b, K k → b ∈ bw → K (gp_cj N o k b)) → ∀ b, b ∈ bs' → K b) :
    ∀ x, gp_gn N o (fun y => y ∈ bs') x ↔ gp_gn N o (fun c => ∃ a b, gp_gn N o (fun y => y ∈ bs) a ∧ b < N ∧ c = gp_cj N o a b) x := by
  have hS := gp_gn.sb (X := fun y => y ∈ bs) g hb
  have hS' := gp_gn.sb (X := fun y => y ∈ bs') g hb'
  have hY : ∀ c, (∃ a b, gp_gn N o (fun y => y ∈ bs) a ∧ b < N ∧ c = gp_cj N o a b) → c < N := fun c hc => by
    obtain ⟨a, b, h1, h2, rfl⟩ := hc
    exact g.cjl (hS.2.1 a h1) h2
  have hK := gp_gn.sb g hY
  intro x
  constructor
  · intro h
    refine gp_gn.le hK (fun b hb1 => hm _ hK (fun b hb2 => ?_) (fun k b hk hb2 => ?_) b hb1) h
    · refine gp_gn.in ⟨b, 0, gp_gn.in hb2, g.pos, ?_⟩
      rw [g.cj0 (hb b hb2)]
    · refine gp_cjg g hK hY (hw b hb2) (fun y hy => ?_) k hk
      obtain ⟨a, b', h1, h2, rfl⟩ := hy
      exact gp_gn.in ⟨a, o b' b, h1, g.lt h2 (hw b hb2), (g.cjc (hS.2.1 a h1) h2 (hw b hb2)).symm⟩
  · intro h
    have h1 : ∀ k b, gp_gn N o (fun y => y ∈ bs') k → b ∈ bw → gp_gn N o (fun y => y ∈ bs') (gp_cj N o k b) := fun k b hk hb2 => gp_cjg g hS' hb' (hw b hb2) (fun y hy => hc y b hy hb2) k hk
    have h2 := gp_nrm g (X := fun y => y ∈ bw) hS' hw (fun k x hk hx => h1 k x hk hx)
    refine gp_gn.le hS' (fun c hc2 => ?_) h
    obtain ⟨a, b, h3, h4, rfl⟩ := hc2
    exact h2 a b (gp_gn.le hS' (fun y hy => hs y hy) h3) (hall b h4)
/-- the commutator subgroup: by the commutators of two bases, closed under conjugation by both -/
theorem gp_comm {N : Nat} {o : Nat → Nat → Nat} (g : gp_ok N o) {bs bt bu : List Nat} (hs : ∀ b, b ∈ bs → b < N) (ht : ∀ b, b ∈ bt → b < N) (hu : ∀ b, b ∈ bu → b < N)
    (h1 : ∀ x y, x ∈ bs → y ∈ bt → gp_gn N o (fun y => y ∈ bu) (gp_cm N o x y)) (h2 : ∀ y b, y ∈ bu → b ∈ bs → gp_gn N o (fun y => y ∈ bu) (gp_cj N o y b)) (h3 : ∀ y b, y ∈ bu → b ∈ bt → gp_gn N o (fun y => y ∈ bu) (gp_cj N o y b))
    (hm : ∀ K : Nat → Prop, gp_sb N o K → (∀ x y, x ∈ bs → y ∈ bt → K (gp_cm N o x y)) → (∀ k b, K k → b ∈ bs → K (gp_cj N o k b)) → (∀ k b, K k → b ∈ bt → K (gp_cj N o k b)) → ∀ b, b ∈ bu → K b) :
    ∀ x, gp_gn N o (fun y => y ∈ bu) x ↔ gp_cs N o (gp_gn N o (fun y => y ∈ bs)) (gp_gn N o (fun y => y ∈ bt)) x := by
  have hS := gp_gn.sb (X := fun y => y ∈ bs) g hs
  have hT := gp_gn.sb (X := fun y => y ∈ bt) g ht
  have hU := gp_gn.sb (X := fun y => y ∈ bu) g hu
  have hC := gp_cs.sb g hS hT
  intro x
  constructor
  · intro h
    exact gp_gn.le hC (fun b hb => hm _ hC (fun x y hx hy => gp_cs.in (gp_gn.in hx) (gp_gn.in hy)) (fun k b hk hb => gp_cs.cj1 g hS hT (gp_gn.in hb) hk) (fun k b hk hb => gp_cs.cj2 g hS hT (gp_gn.in hb) hk) b hb) h
  · intro h
    have n1 := gp_nrm g (X := fun y => y ∈ bs) hU hs (fun k x hk hx => gp_cjg g hU hu (hs x hx) (fun y hy => h2 y x hy hx) k hk)
    have n2 := gp_nrm g (X := fun y => y ∈ bt) hU ht (fun k x hk hx => gp_cjg g hU hu (ht x hx) (fun y hy => h3 y x hy hx) k hk)
    have n3 := gp_cmg g hs ht hU n1 n2 h1
    refine gp_gn.le hU (fun c hc => ?_) h
    obtain ⟨a, b, q1, q2, rfl⟩ := hc
    exact n3 a b q1 q2
theorem gp_cs_ext {N : Nat} {o : Nat → Nat → Nat} {S S' T T' : Nat → Prop} (h1 : ∀ x, S x ↔ S' x) (h2 : ∀ x, T x ↔ T' x) (a : Nat) : gp_cs N o S T a ↔ gp_cs N o S' T' a :=
  gp_gn_ext (fun c => ⟨fun ⟨s, t, q1, q2, q3⟩ => ⟨s, t, (h1 s).mp q1, (h2 t).mp q2, q3⟩, fun ⟨s, t, q1, q2, q3⟩ => ⟨s, t, (h1 s).mpr q1, (h2 t).mpr q2, q3⟩⟩) a
/-- the terms of a series: f of the term before -/
def gp_ser (F : (Nat → Prop) → Nat → Prop) (S : Nat → Prop) : Nat → Nat → Prop
  | 0 => S
  | k + 1 => F (gp_ser F S k)
/-- a series of subgroups, each in the one before: after seven steps of at most 128 nothing changes -/
theorem gp_ser_stop {N : Nat} {o : Nat → Nat → Nat} (g : gp_ok N o) (hN : N ≤ 128) {F : (Nat → Prop) → Nat → Prop} (hF : ∀ S, gp_sb N o S → gp_sb N o (F S) ∧ ∀ a, F S a → S a) (he : ∀ S S' : Nat → Prop, (∀ x, S x ↔ S' x) → ∀ x, F S x ↔ F S' x) {S : Nat → Prop} (hS : gp_sb N o S) :
    ∀ x, gp_ser F S 8 x ↔ gp_ser F S 7 x := by
  have hsb : ∀ k, gp_sb N o (gp_ser F S k) := by
    intro k
    induction k with
    | zero => exact hS
    | succ k ih => exact (hF _ ih).1
  have hst : ∀ k, (∀ x, gp_ser F S k x → gp_ser F S (k + 1) x) → ∀ j, ∀ x, gp_ser F S (k + j) x ↔ gp_ser F S k x := by
    intro k hk j
    induction j with
    | zero => exact fun x => Iff.rfl
    | succ j ih =>
      intro x
      have h1 := he _ _ ih x
      exact h1.trans ⟨(hF _ (hsb k)).2 x, hk x⟩
  have hlt : ∀ k, (∃ j, j < k ∧ ∀ x, gp_ser F S j x → gp_ser F S (j + 1) x) ∨ 2 ^ k * gp_cd N (gp_ser F S k) ≤ N := by
    intro k
    induction k with
    | zero => exact Or.inr (by rw [Nat.pow_zero, Nat.one_mul]; exact gp_cd_le _ _)
    | succ k ih =>
      rcases ih with ⟨j, h1, h2⟩ | h
      · exact Or.inl ⟨j, by omega, h2⟩
      · by_cases q : ∀ x, gp_ser F S k x → gp_ser F S (k + 1) x
        · exact Or.inl ⟨k, by omega, q⟩
        · right
          have q' : ∃ x, gp_ser F S k x ∧ ¬ gp_ser F S (k + 1) x := by
            apply Classical.byContradiction
            intro z
            exact q (fun x hx => Classical.byContradiction fun y => z ⟨x, hx, y⟩)
          obtain ⟨x, hx, hn⟩ := q'
          have := gp_cd_half g (hsb (k + 1)) (hsb k) (hF _ (hsb k)).2 hx hn
          rw [Nat.pow_succ, Nat.mul_assoc]
          exact Nat.le_trans (Nat.mul_le_mul_left _ this) h
  rcases hlt 7 with ⟨j, h1, h2⟩ | h
  · intro x
    have a := hst j h2 (8 - j) x
    have b := hst j h2 (7 - j) x
    rw [show j + (8 - j) = 8 by omega] at a
    rw [show j + (7 - j) = 7 by omega] at b
    exact a.trans b.symm
  · have h1 : gp_cd N (gp_ser F S 7) ≤ 1 := by
      have : 2 ^ 7 = 128 := rfl
      omega
    intro x
    refine ⟨(hF _ (hsb 7)).2 x, fun hx => ?_⟩
    by_cases e : x = 0
    · rw [e]; exact (hsb 8).1
    · exfalso
      have hl := (hsb 7).2.1 x hx
      have h2 : 2 ≤ gp_cd N (gp_ser F S 7) := by
        have := gp_cd_ls (N := N) (P := fun y => y = 0 ∨ y = x) (l := [0, x]) (by simp; exact fun z => e z.symm) (fun a ha => by rcases List.mem_cons.mp ha with q | q; rw [q]; exact g.pos; rw [List.mem_singleton] at q; rw [q]; exact hl) (fun y _ => by simp)
        rw [show [0, x].length = 2 from rfl] at this
        rw [this]
        refine gp_ct_inj id (fun y hy q => ⟨hy, cb_p_t.mpr ?_⟩) (fun _ _ _ _ _ _ q => q)
        rcases cb_p_t.mp q with z | z
        · show gp_ser F S 7 y
          rw [z]; exact (hsb 7).1
        · show gp_ser F S 7 y
          rw [z]; exact hx
      omega
/-- the orbit of a under conjugation, from a row that bears conjugation by the generators -/
theorem gp_orbit {N : Nat} {o : Nat → Nat → Nat} (g : gp_ok N o) {X : Nat → Prop} (hX : ∀ x, X x → x < N) (hall : ∀ x, x < N → gp_gn N o X x) {l : List Nat} (hl : ∀ x, x ∈ l → x < N) (hc : ∀ x s, x ∈ l → X s → gp_cj N o x s ∈ l) : ∀ x s, x ∈ l → s < N → gp_cj N o x s ∈ l := by
  intro x s hx hs
  have hsb : gp_sb N o (fun s => s < N ∧ ∀ x, x ∈ l → gp_cj N o x s ∈ l) := by
    refine ⟨⟨g.pos, fun x hx => by rw [g.cj0 (hl x hx)]; exact hx⟩, fun a h => h.1, fun a b h1 h2 => ⟨g.lt h1.1 h2.1, fun x hx => ?_⟩⟩
    rw [g.cjc (hl x hx) h1.1 h2.1]
    exact h2.2 _ (h1.2 x hx)
  exact (gp_gn.le hsb (fun y hy => ⟨hX y hy, fun x hx => hc x y hx hy⟩) (hall s hs)).2 x hx
/-- what commutes with the generators commutes with all -/
theorem gp_central {N : Nat} {o : Nat → Nat → Nat} (g : gp_ok N o) {X : Nat → Prop} (hX : ∀ x, X x → x < N) (hall : ∀ x, x < N → gp_gn N o X x) {a : Nat} (ha : a < N) (hc : ∀ s, X s → o a s = o s a) : ∀ s, s < N → o a s = o s a := by
  intro s hs
  have hsb : gp_sb N o (fun s => s < N ∧ o a s = o s a) := by
    refine ⟨⟨g.pos, by rw [g.r0 ha, g.l0 ha]⟩, fun a h => h.1, fun x y h1 h2 => ⟨g.lt h1.1 h2.1, ?_⟩⟩
    rw [← g.as ha h1.1 h2.1, h1.2, g.as h1.1 ha h2.1, h2.2, g.as h1.1 h2.1 ha]
  exact (gp_gn.le hsb (fun y hy => ⟨hX y hy, hc y hy⟩) (hall s hs)).2
