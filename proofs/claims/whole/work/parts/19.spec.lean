/-! What a call answers and does, in words that class and reference share. -/
noncomputable def cn_n (P : Prop) (a b : Nat) : Nat := @ite _ P (Classical.propDecidable P) a b
theorem cn_t {P : Prop} {a b : Nat} (h : P) : cn_n P a b = a := by unfold cn_n; exact @if_pos _ (Classical.propDecidable P) h _ _ _
theorem cn_f {P : Prop} {a b : Nat} (h : ¬ P) : cn_n P a b = b := by unfold cn_n; exact @if_neg _ (Classical.propDecidable P) h _ _ _
theorem cn_lt {P : Prop} {b : Nat} (hb : b < 2) (h : b = 1 ↔ P) : b = cn_n P 1 0 := by
  by_cases q : P
  · rw [cn_t q]; exact h.mpr q
  · rw [cn_f q]; have : ¬ b = 1 := fun z => q (h.mp z); omega
/-- an int that is a number below N -/
def el_i (N : Nat) (x : Int32) : Prop := ∃ j, j < N ∧ x = nI j
theorem el_nv {N j : Nat} (hN : N ≤ 2147483648) (h : j < N) : (nI j).toNatClampNeg = j := nI_clamp (show j < 2 ^ 31 by omega)
abbrev el_v (x : Int32) : Nat := x.toNatClampNeg
/-- a number of what is asked, or -1 -/
def an_o (P : Prop) (v : Nat) (r : Int32) : Prop := (P → r = nI v) ∧ (¬ P → r = -1)
theorem an_u {P : Prop} {v v' : Nat} {r r' : Int32} (h : an_o P v r) (h' : an_o P v' r') (e : P → v = v') : r = r' := by
  by_cases q : P
  · rw [h.1 q, h'.1 q, e q]
  · rw [h.2 q, h'.2 q]
/-- a place set anew -/
def sa_t (P : Prop) (k : Nat) (T : Nat → Prop) (S : Nat → Nat → Prop) : Nat → Nat → Prop := fun q v => (P ∧ q = k ∧ T v) ∨ (¬ (P ∧ q = k) ∧ S q v)
theorem sa_in {P : Prop} {k : Nat} {T : Nat → Prop} {S : Nat → Nat → Prop} (h : P) (v : Nat) : sa_t P k T S k v ↔ T v :=
  ⟨fun q => q.elim (fun z => z.2.2) (fun z => absurd ⟨h, rfl⟩ z.1), fun q => Or.inl ⟨h, rfl, q⟩⟩
theorem sa_ot {P : Prop} {k q : Nat} {T : Nat → Prop} {S : Nat → Nat → Prop} (h : q ≠ k) (v : Nat) : sa_t P k T S q v ↔ S q v :=
  ⟨fun z => z.elim (fun w => absurd w.2.1 h) (fun w => w.2), fun z => Or.inr ⟨fun w => h w.2, z⟩⟩
theorem sa_no {P : Prop} {k q : Nat} {T : Nat → Prop} {S : Nat → Nat → Prop} (h : ¬ P) (v : Nat) : sa_t P k T S q v ↔ S q v :=
  ⟨fun z => z.elim (fun w => absurd w.1 h) (fun w => w.2), fun z => Or.inr ⟨fun w => h w.1, z⟩⟩
/-- what each call does to a place -/
abbrev sp_join (N : Nat) (o : Nat → Nat → Nat) (S : Nat → Prop) (a : Nat) : Nat → Prop := gp_gn N o (fun u => S u ∨ u = a)
abbrev sp_spread (N : Nat) (o : Nat → Nat → Nat) (S : Nat → Prop) : Nat → Prop := gp_gn N o (fun c => ∃ a b, S a ∧ b < N ∧ c = gp_cj N o a b)
abbrev sp_all (N : Nat) : Nat → Prop := fun a => a < N
abbrev sp_ser (N : Nat) (o : Nat → Nat → Nat) (w : Bool) (k : Nat) : Nat → Prop := gp_ser (fun S => gp_cs N o S (if w = true then sp_all N else S)) (sp_all N) k
abbrev sp_kin (N : Nat) (o : Nat → Nat → Nat) (a : Nat) : Nat → Prop := fun y => ∃ b, b < N ∧ y = gp_cj N o a b
abbrev sp_head (N : Nat) (o : Nat → Nat → Nat) (a v : Nat) : Prop := sp_kin N o a v ∧ ∀ y, sp_kin N o a y → v ≤ y
abbrev sp_least (N : Nat) (o : Nat → Nat → Nat) : Nat → Prop := fun a => ∀ b, b < N → a ≤ gp_cj N o a b
abbrev sp_central (N : Nat) (o : Nat → Nat → Nat) : Nat → Prop := fun a => ∀ b, b < N → o a b = o b a
/-- the relations that power and conjugate may set -/
def sp_pw (fx n : Nat) (w : Nat → Nat) (x y : Int32) : Prop := fx ≠ 1 ∧ ∃ j v, j < n ∧ x = nI j ∧ v < w j ∧ y = nI v
def sp_cg (fx n : Nat) (w : Nat → Nat) (x y u : Int32) : Prop := fx ≠ 1 ∧ ∃ i j v, i < j ∧ j < n ∧ x = nI i ∧ y = nI j ∧ v < w i ∧ u = nI v
noncomputable def sp_pw1 (fx n : Nat) (w p : Nat → Nat) (x y : Int32) : Nat → Nat := fun i => cn_n (sp_pw fx n w x y ∧ i = el_v x) (el_v y) (p i)
noncomputable def sp_cg1 (fx n : Nat) (w : Nat → Nat) (c : Nat → Nat → Nat) (x y u : Int32) : Nat → Nat → Nat := fun a b => cn_n (sp_cg fx n w x y u ∧ a = el_v x ∧ b = el_v y) (el_v u) (c a b)
/-- k modulo n, never below 0 -/
def sp_md (y : Int32) (n v : Nat) : Prop := (v : Int) = y.toInt % (n : Int)
theorem sp_md_u {y : Int32} {n v v' : Nat} (h : sp_md y n v) (h' : sp_md y n v') : v = v' := by
  have : (v : Int) = (v' : Int) := h.trans h'.symm
  omega
theorem sp_ser_sb {N : Nat} {o : Nat → Nat → Nat} (g : gp_ok N o) (w : Bool) : ∀ S, gp_sb N o S → gp_sb N o (gp_cs N o S (if w = true then sp_all N else S)) := by
  intro S hS
  cases w
  · exact gp_cs.sb g hS hS
  · exact gp_cs.sb g hS (gp_all g)
/-- a commutator subgroup with what bears conjugation is within it -/
def sp_nm (N : Nat) (o : Nat → Nat → Nat) (S : Nat → Prop) : Prop := ∀ k s, S k → s < N → S (gp_cj N o k s)
