/-! What stands where: the class's object, its parts, the reference. A place is a kind and a number. -/
abbrev zz_Z : Type := va_G × (hw_P → Nat) × (hw_P → Prop) × (Nat → ClassId) × Nat × Nat × (Nat → Nat)
def zz_D (z : zz_Z) : va_G := z.1
def zz_A (z : zz_Z) : hw_P → Nat := z.2.1
def zz_O (z : zz_Z) : hw_P → Prop := z.2.2.1
def zz_C (z : zz_Z) : Nat → ClassId := z.2.2.2.1
def zz_n (z : zz_Z) : Nat := z.2.2.2.2.1
def zz_N (z : zz_Z) : Nat := z.2.2.2.2.2.1
def zz_l (z : zz_Z) : Nat → Nat := z.2.2.2.2.2.2
/-- the array classes -/
abbrev zz_T (z : zz_Z) : List (ClassId × FieldType) := [(zz_C z 0, .int), (zz_C z 1, .boolean), (zz_C z 2, .array .int), (zz_C z 3, .object "CollectedGroup$Subgroup")]
abbrev zz_i (c : ClassId) (n : Nat) (f : Nat → Nat) : va_E := .inl (c, n, .inl (fun i => nI (f i)))
abbrev zz_r (c : ClassId) (n : Nat) (g : Nat → Nat) : va_E := .inl (c, n, .inr (.inr (.inr (.inr (fun i => some (g i))))))
def zz_E (z : zz_Z) : hw_E := fun k f => match k.1 with
  | 0 => .inr (3, [.ref (zz_A z (1, 0)), .ref (zz_A z (11, 0)), .ref (zz_A z (12, 4)), .ref (zz_A z (12, 5)), .ref (zz_A z (12, 6)), .ref (zz_A z (13, 7)), .int (nI (f 6))])
  | 1 => .inr (0, [.int (nI (f 0)), .int (nI (f 1)), .ref (zz_A z (2, 0)), .ref (zz_A z (3, 0)), .ref (zz_A z (4, 0)), .ref (zz_A z (5, 0)), .ref (zz_A z (7, 0)), .ref (zz_A z (9, 0))])
  | 2 => zz_i (zz_C z 0) (zz_n z) f
  | 3 => zz_i (zz_C z 0) (zz_n z) f
  | 4 => zz_i (zz_C z 0) (zz_n z) f
  | 5 => zz_r (zz_C z 2) (zz_n z) (fun i => zz_A z (6, i))
  | 6 => zz_i (zz_C z 0) (zz_n z) f
  | 7 => zz_r (zz_C z 2) (zz_n z) (fun i => zz_A z (8, i))
  | 8 => zz_i (zz_C z 0) (zz_l z k.2) f
  | 9 => zz_r (zz_C z 2) (zz_n z) (fun i => zz_A z (10, i))
  | 10 => zz_i (zz_C z 0) (zz_l z k.2) f
  | 11 => zz_r (zz_C z 3) 4 (fun i => zz_A z (12, i))
  | 12 => .inr (2, [.ref (zz_A z (1, 0)), .ref (zz_A z (13, k.2)), .ref (zz_A z (16, k.2)), .int (nI (f 3))])
  | 13 => .inr (1, [.ref (zz_A z (14, k.2)), .ref (zz_A z (15, k.2)), .int (nI (f 2))])
  | 14 => zz_i (zz_C z 1) (zz_N z) f
  | 15 => zz_i (zz_C z 0) (zz_N z) f
  | 16 => zz_i (zz_C z 0) 7 f
  | 20 => .inr (4, [.int (nI (f 0)), .int (nI (f 1)), .ref (zz_A z (21, 0)), .ref (zz_A z (22, 0)), .ref (zz_A z (23, 0)), .ref (zz_A z (24, 0)), .int (nI (f 6)), .ref (zz_A z (25, 0)), .ref (zz_A z (26, 0)), .ref (zz_A z (27, 0)), .ref (zz_A z (28, 0)), .ref (zz_A z (29, 0)), .ref (zz_A z (30, 0)), .ref (zz_A z (31, 0))])
  | 21 => zz_i (zz_C z 0) 7 f
  | 22 => zz_i (zz_C z 0) 7 f
  | 23 => zz_i (zz_C z 0) 7 f
  | 24 => zz_i (zz_C z 0) 49 f
  | 25 => zz_i (zz_C z 0) 16384 f
  | 26 => zz_i (zz_C z 0) 128 f
  | 27 => zz_i (zz_C z 0) 128 f
  | 28 => zz_i (zz_C z 0) 128 f
  | 29 => zz_i (zz_C z 1) 512 f
  | 30 => zz_i (zz_C z 1) 128 f
  | 31 => zz_i (zz_C z 1) 128 f
  | _ => .inr (3, [])
/-- the places that are there once both objects stand -/
def zz_k (n : Nat) (k : hw_P) : Prop := match k.1 with
  | 0 => k.2 = 0
  | 1 => k.2 = 0
  | 2 => k.2 = 0
  | 3 => k.2 = 0
  | 4 => k.2 = 0
  | 5 => k.2 = 0
  | 6 => k.2 < n
  | 7 => k.2 = 0
  | 8 => k.2 < n
  | 9 => k.2 = 0
  | 10 => k.2 < n
  | 11 => k.2 = 0
  | 12 => k.2 < 7
  | 13 => k.2 < 8
  | 14 => k.2 < 8
  | 15 => k.2 < 8
  | 16 => k.2 < 7
  | 17 => False
  | 18 => False
  | 19 => False
  | 20 => k.2 = 0
  | 21 => k.2 = 0
  | 22 => k.2 = 0
  | 23 => k.2 = 0
  | 24 => k.2 = 0
  | 25 => k.2 = 0
  | 26 => k.2 = 0
  | 27 => k.2 = 0
  | 28 => k.2 = 0
  | 29 => k.2 = 0
  | 30 => k.2 = 0
  | 31 => k.2 = 0
  | _ => False
abbrev zz_B (z : zz_Z) : hw_M → State → Prop := hw_b (zz_D z) (zz_E z) (zz_A z) (zz_O z) (zz_T z)
abbrev zz_F (z : zz_Z) : Nat → Prop := hw_A (zz_A z) (zz_O z)
abbrev zz_V (z : zz_Z) (σ : hw_M) (H0 H : Heap) (locs : List Loc) : Prop := hw_v (zz_D z) (zz_E z) (zz_A z) (zz_O z) (zz_F z) σ H0 H locs
