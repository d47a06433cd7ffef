/-! Where all stands once both objects are made: from cells by address to cells by place. By program (wip/whole/gen/start.py). -/
theorem arrV_eq {c : ClassId} {n : Nat} {f g : Nat → Value} (e : ∀ i, i < n → f i = g i) : arrV c n f = arrV c n g := by
  unfold arrV
  have h : (fun j : Fin n => f j.val) = fun j : Fin n => g j.val := funext fun j => e j.val j.isLt
  rw [h]
theorem va_ati {D : va_G} {c : ClassId} {n q : Nat} {f g : Nat → Nat} {H : Heap} (h : va_at D CLS (q, zz_i c n f) H) (e : ∀ i, i < n → f i = g i) : va_at D CLS (q, zz_i c n g) H := by
  show H[q]? = some (vp_cell _ _)
  have h1 : H[q]? = some (vp_cell c (n, .inl (fun i => nI (f i)))) := h
  rw [h1, vp_cell_i, vp_cell_i]
  exact congrArg some (arrV_eq (fun i hi => by rw [e i hi]))
theorem va_atq {D : va_G} {c : ClassId} {n q : Nat} {g : Nat → Option Nat} {g' : Nat → Nat} {H : Heap} (h : va_at D CLS (q, rw_q c n g) H) (e : ∀ i, i < n → g i = some (g' i)) : va_at D CLS (q, zz_r c n g') H := by
  show H[q]? = some (vp_cell _ _)
  have h1 : H[q]? = some (vp_cell c (n, .inr (.inr (.inr (.inr g))))) := h
  rw [h1, vp_cell_q, vp_cell_q]
  exact congrArg some (arrV_eq (fun i hi => by rw [e i hi]))
def za (q h n P : Nat) (u : hw_P) : Nat := let j := u.2; match u.1 with
  | 0 => q
  | 1 => h
  | 2 => h + 2
  | 3 => h + 3
  | 4 => h + 4
  | 5 => h + 5
  | 6 => h + 6 + j
  | 7 => h + 6 + n
  | 8 => h + 8 + n + 2 * (n - 1 - j)
  | 9 => h + 7 + n
  | 10 => h + 9 + n + 2 * (n - 1 - j)
  | 11 => P
  | 12 => P + 1 + 5 * j
  | 13 => if j = 7 then P + 36 else P + 2 + 5 * j
  | 14 => if j = 7 then P + 37 else P + 3 + 5 * j
  | 15 => if j = 7 then P + 38 else P + 4 + 5 * j
  | 16 => P + 5 + 5 * j
  | 20 => P + 39
  | 21 => P + 40
  | 22 => P + 41
  | 23 => P + 42
  | 24 => P + 43
  | 25 => P + 44
  | 26 => P + 45
  | 27 => P + 46
  | 28 => P + 47
  | 29 => P + 48
  | 30 => P + 49
  | 31 => P + 50
  | _ => 0
def zi (q h n P a : Nat) : hw_P := if a = q then (0, 0) else if a = h then (1, 0) else if a < h + 6 then (a - h, 0) else if a < h + 6 + n then (6, a - h - 6) else if a = h + 6 + n then (7, 0) else if a = h + 7 + n then (9, 0) else if a < P then (if (a - h - 8 - n) % 2 = 0 then (8, n - 1 - (a - h - 8 - n) / 2) else (10, n - 1 - (a - h - 9 - n) / 2)) else
  if a = P then (11, 0) else if a < P + 36 then (12 + (a - P - 1) % 5, (a - P - 1) / 5) else if a < P + 39 then (13 + (a - P - 36), 7) else (a - P - 19, 0)
theorem zi_0 {q h n P j : Nat} (hq : q + 1 = h) (hP : P = h + 8 + 3 * n) (hj : j = 0) : zi q h n P (za q h n P (0, j)) = (0, j) := by
  show zi q h n P (q) = _
  unfold zi
  repeat (first | rw [if_neg (by omega)] | rw [if_pos (by omega)])
  exact Prod.ext (by show (_ : Nat) = _; omega) (by show (_ : Nat) = _; omega)
theorem zi_1 {q h n P j : Nat} (hq : q + 1 = h) (hP : P = h + 8 + 3 * n) (hj : j = 0) : zi q h n P (za q h n P (1, j)) = (1, j) := by
  show zi q h n P (h) = _
  unfold zi
  repeat (first | rw [if_neg (by omega)] | rw [if_pos (by omega)])
  exact Prod.ext (by show (_ : Nat) = _; omega) (by show (_ : Nat) = _; omega)
theorem zi_2 {q h n P j : Nat} (hq : q + 1 = h) (hP : P = h + 8 + 3 * n) (hj : j = 0) : zi q h n P (za q h n P (2, j)) = (2, j) := by
  show zi q h n P (h + 2) = _
  unfold zi
  repeat (first | rw [if_neg (by omega)] | rw [if_pos (by omega)])
  exact Prod.ext (by show (_ : Nat) = _; omega) (by show (_ : Nat) = _; omega)
theorem zi_3 {q h n P j : Nat} (hq : q + 1 = h) (hP : P = h + 8 + 3 * n) (hj : j = 0) : zi q h n P (za q h n P (3, j)) = (3, j) := by
  show zi q h n P (h + 3) = _
  unfold zi
  repeat (first | rw [if_neg (by omega)] | rw [if_pos (by omega)])
  exact Prod.ext (by show (_ : Nat) = _; omega) (by show (_ : Nat) = _; omega)
theorem zi_4 {q h n P j : Nat} (hq : q + 1 = h) (hP : P = h + 8 + 3 * n) (hj : j = 0) : zi q h n P (za q h n P (4, j)) = (4, j) := by
  show zi q h n P (h + 4) = _
  unfold zi
  repeat (first | rw [if_neg (by omega)] | rw [if_pos (by omega)])
  exact Prod.ext (by show (_ : Nat) = _; omega) (by show (_ : Nat) = _; omega)
theorem zi_5 {q h n P j : Nat} (hq : q + 1 = h) (hP : P = h + 8 + 3 * n) (hj : j = 0) : zi q h n P (za q h n P (5, j)) = (5, j) := by
  show zi q h n P (h + 5) = _
  unfold zi
  repeat (first | rw [if_neg (by omega)] | rw [if_pos (by omega)])
  exact Prod.ext (by show (_ : Nat) = _; omega) (by show (_ : Nat) = _; omega)
theorem zi_6 {q h n P j : Nat} (hq : q + 1 = h) (hP : P = h + 8 + 3 * n) (hj : j < n) : zi q h n P (za q h n P (6, j)) = (6, j) := by
  show zi q h n P (h + 6 + j) = _
  unfold zi
  repeat (first | rw [if_neg (by omega)] | rw [if_pos (by omega)])
  exact Prod.ext (by show (_ : Nat) = _; omega) (by show (_ : Nat) = _; omega)
theorem zi_7 {q h n P j : Nat} (hq : q + 1 = h) (hP : P = h + 8 + 3 * n) (hj : j = 0) : zi q h n P (za q h n P (7, j)) = (7, j) := by
  show zi q h n P (h + 6 + n) = _
  unfold zi
  repeat (first | rw [if_neg (by omega)] | rw [if_pos (by omega)])
  exact Prod.ext (by show (_ : Nat) = _; omega) (by show (_ : Nat) = _; omega)
theorem zi_8 {q h n P j : Nat} (hq : q + 1 = h) (hP : P = h + 8 + 3 * n) (hj : j < n) : zi q h n P (za q h n P (8, j)) = (8, j) := by
  show zi q h n P (h + 8 + n + 2 * (n - 1 - j)) = _
  unfold zi
  repeat (first | rw [if_neg (by omega)] | rw [if_pos (by omega)])
  exact Prod.ext (by show (_ : Nat) = _; omega) (by show (_ : Nat) = _; omega)
theorem zi_9 {q h n P j : Nat} (hq : q + 1 = h) (hP : P = h + 8 + 3 * n) (hj : j = 0) : zi q h n P (za q h n P (9, j)) = (9, j) := by
  show zi q h n P (h + 7 + n) = _
  unfold zi
  repeat (first | rw [if_neg (by omega)] | rw [if_pos (by omega)])
  exact Prod.ext (by show (_ : Nat) = _; omega) (by show (_ : Nat) = _; omega)
theorem zi_10 {q h n P j : Nat} (hq : q + 1 = h) (hP : P = h + 8 + 3 * n) (hj : j < n) : zi q h n P (za q h n P (10, j)) = (10, j) := by
  show zi q h n P (h + 9 + n + 2 * (n - 1 - j)) = _
  unfold zi
  repeat (first | rw [if_neg (by omega)] | rw [if_pos (by omega)])
  exact Prod.ext (by show (_ : Nat) = _; omega) (by show (_ : Nat) = _; omega)
theorem zi_11 {q h n P j : Nat} (hq : q + 1 = h) (hP : P = h + 8 + 3 * n) (hj : j = 0) : zi q h n P (za q h n P (11, j)) = (11, j) := by
  show zi q h n P (P) = _
  unfold zi
  repeat (first | rw [if_neg (by omega)] | rw [if_pos (by omega)])
  exact Prod.ext (by show (_ : Nat) = _; omega) (by show (_ : Nat) = _; omega)
theorem zi_12 {q h n P j : Nat} (hq : q + 1 = h) (hP : P = h + 8 + 3 * n) (hj : j < 7) : zi q h n P (za q h n P (12, j)) = (12, j) := by
  show zi q h n P (P + 1 + 5 * j) = _
  unfold zi
  repeat (first | rw [if_neg (by omega)] | rw [if_pos (by omega)])
  exact Prod.ext (by show (_ : Nat) = _; omega) (by show (_ : Nat) = _; omega)
theorem zi_13 {q h n P j : Nat} (hq : q + 1 = h) (hP : P = h + 8 + 3 * n) (hj : j < 8) : zi q h n P (za q h n P (13, j)) = (13, j) := by
  show zi q h n P (if j = 7 then P + 36 else P + 2 + 5 * j) = _
  by_cases e : j = 7
  · rw [if_pos e]
    unfold zi
    repeat (first | rw [if_neg (by omega)] | rw [if_pos (by omega)])
    exact Prod.ext (by show (_ : Nat) = _; omega) (by show (_ : Nat) = _; omega)
  · rw [if_neg e]
    unfold zi
    repeat (first | rw [if_neg (by omega)] | rw [if_pos (by omega)])
    exact Prod.ext (by show (_ : Nat) = _; omega) (by show (_ : Nat) = _; omega)
theorem zi_14 {q h n P j : Nat} (hq : q + 1 = h) (hP : P = h + 8 + 3 * n) (hj : j < 8) : zi q h n P (za q h n P (14, j)) = (14, j) := by
  show zi q h n P (if j = 7 then P + 37 else P + 3 + 5 * j) = _
  by_cases e : j = 7
  · rw [if_pos e]
    unfold zi
    repeat (first | rw [if_neg (by omega)] | rw [if_pos (by omega)])
    exact Prod.ext (by show (_ : Nat) = _; omega) (by show (_ : Nat) = _; omega)
  · rw [if_neg e]
    unfold zi
    repeat (first | rw [if_neg (by omega)] | rw [if_pos (by omega)])
    exact Prod.ext (by show (_ : Nat) = _; omega) (by show (_ : Nat) = _; omega)
theorem zi_15 {q h n P j : Nat} (hq : q + 1 = h) (hP : P = h + 8 + 3 * n) (hj : j < 8) : zi q h n P (za q h n P (15, j)) = (15, j) := by
  show zi q h n P (if j = 7 then P + 38 else P + 4 + 5 * j) = _
  by_cases e : j = 7
  · rw [if_pos e]
    unfold zi
    repeat (first | rw [if_neg (by omega)] | rw [if_pos (by omega)])
    exact Prod.ext (by show (_ : Nat) = _; omega) (by show (_ : Nat) = _; omega)
  · rw [if_neg e]
    unfold zi
    repeat (first | rw [if_neg (by omega)] | rw [if_pos (by omega)])
    exact Prod.ext (by show (_ : Nat) = _; omega) (by show (_ : Nat) = _; omega)
theorem zi_16 {q h n P j : Nat} (hq : q + 1 = h) (hP : P = h + 8 + 3 * n) (hj : j < 7) : zi q h n P (za q h n P (16, j)) = (16, j) := by
  show zi q h n P (P + 5 + 5 * j) = _
  unfold zi
  repeat (first | rw [if_neg (by omega)] | rw [if_pos (by omega)])
  exact Prod.ext (by show (_ : Nat) = _; omega) (by show (_ : Nat) = _; omega)
theorem zi_20 {q h n P j : Nat} (hq : q + 1 = h) (hP : P = h + 8 + 3 * n) (hj : j = 0) : zi q h n P (za q h n P (20, j)) = (20, j) := by
  show zi q h n P (P + 39) = _
  unfold zi
  repeat (first | rw [if_neg (by omega)] | rw [if_pos (by omega)])
  exact Prod.ext (by show (_ : Nat) = _; omega) (by show (_ : Nat) = _; omega)
theorem zi_21 {q h n P j : Nat} (hq : q + 1 = h) (hP : P = h + 8 + 3 * n) (hj : j = 0) : zi q h n P (za q h n P (21, j)) = (21, j) := by
  show zi q h n P (P + 40) = _
  unfold zi
  repeat (first | rw [if_neg (by omega)] | rw [if_pos (by omega)])
  exact Prod.ext (by show (_ : Nat) = _; omega) (by show (_ : Nat) = _; omega)
theorem zi_22 {q h n P j : Nat} (hq : q + 1 = h) (hP : P = h + 8 + 3 * n) (hj : j = 0) : zi q h n P (za q h n P (22, j)) = (22, j) := by
  show zi q h n P (P + 41) = _
  unfold zi
  repeat (first | rw [if_neg (by omega)] | rw [if_pos (by omega)])
  exact Prod.ext (by show (_ : Nat) = _; omega) (by show (_ : Nat) = _; omega)
theorem zi_23 {q h n P j : Nat} (hq : q + 1 = h) (hP : P = h + 8 + 3 * n) (hj : j = 0) : zi q h n P (za q h n P (23, j)) = (23, j) := by
  show zi q h n P (P + 42) = _
  unfold zi
  repeat (first | rw [if_neg (by omega)] | rw [if_pos (by omega)])
  exact Prod.ext (by show (_ : Nat) = _; omega) (by show (_ : Nat) = _; omega)
theorem zi_24 {q h n P j : Nat} (hq : q + 1 = h) (hP : P = h + 8 + 3 * n) (hj : j = 0) : zi q h n P (za q h n P (24, j)) = (24, j) := by
  show zi q h n P (P + 43) = _
  unfold zi
  repeat (first | rw [if_neg (by omega)] | rw [if_pos (by omega)])
  exact Prod.ext (by show (_ : Nat) = _; omega) (by show (_ : Nat) = _; omega)
theorem zi_25 {q h n P j : Nat} (hq : q + 1 = h) (hP : P = h + 8 + 3 * n) (hj : j = 0) : zi q h n P (za q h n P (25, j)) = (25, j) := by
  show zi q h n P (P + 44) = _
  unfold zi
  repeat (first | rw [if_neg (by omega)] | rw [if_pos (by omega)])
  exact Prod.ext (by show (_ : Nat) = _; omega) (by show (_ : Nat) = _; omega)
theorem zi_26 {q h n P j : Nat} (hq : q + 1 = h) (hP : P = h + 8 + 3 * n) (hj : j = 0) : zi q h n P (za q h n P (26, j)) = (26, j) := by
  show zi q h n P (P + 45) = _
  unfold zi
  repeat (first | rw [if_neg (by omega)] | rw [if_pos (by omega)])
  exact Prod.ext (by show (_ : Nat) = _; omega) (by show (_ : Nat) = _; omega)
theorem zi_27 {q h n P j : Nat} (hq : q + 1 = h) (hP : P = h + 8 + 3 * n) (hj : j = 0) : zi q h n P (za q h n P (27, j)) = (27, j) := by
  show zi q h n P (P + 46) = _
  unfold zi
  repeat (first | rw [if_neg (by omega)] | rw [if_pos (by omega)])
  exact Prod.ext (by show (_ : Nat) = _; omega) (by show (_ : Nat) = _; omega)
theorem zi_28 {q h n P j : Nat} (hq : q + 1 = h) (hP : P = h + 8 + 3 * n) (hj : j = 0) : zi q h n P (za q h n P (28, j)) = (28, j) := by
  show zi q h n P (P + 47) = _
  unfold zi
  repeat (first | rw [if_neg (by omega)] | rw [if_pos (by omega)])
  exact Prod.ext (by show (_ : Nat) = _; omega) (by show (_ : Nat) = _; omega)
theorem zi_29 {q h n P j : Nat} (hq : q + 1 = h) (hP : P = h + 8 + 3 * n) (hj : j = 0) : zi q h n P (za q h n P (29, j)) = (29, j) := by
  show zi q h n P (P + 48) = _
  unfold zi
  repeat (first | rw [if_neg (by omega)] | rw [if_pos (by omega)])
  exact Prod.ext (by show (_ : Nat) = _; omega) (by show (_ : Nat) = _; omega)
theorem zi_30 {q h n P j : Nat} (hq : q + 1 = h) (hP : P = h + 8 + 3 * n) (hj : j = 0) : zi q h n P (za q h n P (30, j)) = (30, j) := by
  show zi q h n P (P + 49) = _
  unfold zi
  repeat (first | rw [if_neg (by omega)] | rw [if_pos (by omega)])
  exact Prod.ext (by show (_ : Nat) = _; omega) (by show (_ : Nat) = _; omega)
theorem zi_31 {q h n P j : Nat} (hq : q + 1 = h) (hP : P = h + 8 + 3 * n) (hj : j = 0) : zi q h n P (za q h n P (31, j)) = (31, j) := by
  show zi q h n P (P + 50) = _
  unfold zi
  repeat (first | rw [if_neg (by omega)] | rw [if_pos (by omega)])
  exact Prod.ext (by show (_ : Nat) = _; omega) (by show (_ : Nat) = _; omega)
theorem zi_all {q h n P : Nat} (hq : q + 1 = h) (hP : P = h + 8 + 3 * n) : ∀ k j, zz_k n (k, j) → zi q h n P (za q h n P (k, j)) = (k, j)
  | 0, j, hk => zi_0 hq hP hk
  | 1, j, hk => zi_1 hq hP hk
  | 2, j, hk => zi_2 hq hP hk
  | 3, j, hk => zi_3 hq hP hk
  | 4, j, hk => zi_4 hq hP hk
  | 5, j, hk => zi_5 hq hP hk
  | 6, j, hk => zi_6 hq hP hk
  | 7, j, hk => zi_7 hq hP hk
  | 8, j, hk => zi_8 hq hP hk
  | 9, j, hk => zi_9 hq hP hk
  | 10, j, hk => zi_10 hq hP hk
  | 11, j, hk => zi_11 hq hP hk
  | 12, j, hk => zi_12 hq hP hk
  | 13, j, hk => zi_13 hq hP hk
  | 14, j, hk => zi_14 hq hP hk
  | 15, j, hk => zi_15 hq hP hk
  | 16, j, hk => zi_16 hq hP hk
  | 17, j, hk => False.elim hk
  | 18, j, hk => False.elim hk
  | 19, j, hk => False.elim hk
  | 20, j, hk => zi_20 hq hP hk
  | 21, j, hk => zi_21 hq hP hk
  | 22, j, hk => zi_22 hq hP hk
  | 23, j, hk => zi_23 hq hP hk
  | 24, j, hk => zi_24 hq hP hk
  | 25, j, hk => zi_25 hq hP hk
  | 26, j, hk => zi_26 hq hP hk
  | 27, j, hk => zi_27 hq hP hk
  | 28, j, hk => zi_28 hq hP hk
  | 29, j, hk => zi_29 hq hP hk
  | 30, j, hk => zi_30 hq hP hk
  | 31, j, hk => zi_31 hq hP hk
  | k + 32, j, hk => False.elim hk
theorem za_ge {q h n P : Nat} (hq : q + 1 = h) (hP : P = h + 8 + 3 * n) : ∀ k j, zz_k n (k, j) → q ≤ za q h n P (k, j)
  | 0, j, hk => by
    show q ≤ q
    omega
  | 1, j, hk => by
    show q ≤ h
    omega
  | 2, j, hk => by
    show q ≤ h + 2
    omega
  | 3, j, hk => by
    show q ≤ h + 3
    omega
  | 4, j, hk => by
    show q ≤ h + 4
    omega
  | 5, j, hk => by
    show q ≤ h + 5
    omega
  | 6, j, hk => by
    show q ≤ h + 6 + j
    omega
  | 7, j, hk => by
    show q ≤ h + 6 + n
    omega
  | 8, j, hk => by
    show q ≤ h + 8 + n + 2 * (n - 1 - j)
    omega
  | 9, j, hk => by
    show q ≤ h + 7 + n
    omega
  | 10, j, hk => by
    show q ≤ h + 9 + n + 2 * (n - 1 - j)
    omega
  | 11, j, hk => by
    show q ≤ P
    omega
  | 12, j, hk => by
    show q ≤ P + 1 + 5 * j
    omega
  | 13, j, hk => by
    show q ≤ (if j = 7 then P + 36 else P + 2 + 5 * j)
    split <;> omega
  | 14, j, hk => by
    show q ≤ (if j = 7 then P + 37 else P + 3 + 5 * j)
    split <;> omega
  | 15, j, hk => by
    show q ≤ (if j = 7 then P + 38 else P + 4 + 5 * j)
    split <;> omega
  | 16, j, hk => by
    show q ≤ P + 5 + 5 * j
    omega
  | 17, j, hk => False.elim hk
  | 18, j, hk => False.elim hk
  | 19, j, hk => False.elim hk
  | 20, j, hk => by
    show q ≤ P + 39
    omega
  | 21, j, hk => by
    show q ≤ P + 40
    omega
  | 22, j, hk => by
    show q ≤ P + 41
    omega
  | 23, j, hk => by
    show q ≤ P + 42
    omega
  | 24, j, hk => by
    show q ≤ P + 43
    omega
  | 25, j, hk => by
    show q ≤ P + 44
    omega
  | 26, j, hk => by
    show q ≤ P + 45
    omega
  | 27, j, hk => by
    show q ≤ P + 46
    omega
  | 28, j, hk => by
    show q ≤ P + 47
    omega
  | 29, j, hk => by
    show q ≤ P + 48
    omega
  | 30, j, hk => by
    show q ≤ P + 49
    omega
  | 31, j, hk => by
    show q ≤ P + 50
    omega
  | k + 32, j, hk => False.elim hk
def zs (x : Int32) (n N : Nat) (f : Nat → Nat) (R : Nat → Nat → Nat) (fw ft : Nat → Nat) : hw_M := fun u => let j := u.2; match u.1 with
  | 1 => fun i => if i = 0 then n else if i = 1 then N else 0
  | 2 => dg_f x n
  | 3 => fun i => if i < n then f i else 0
  | 6 => R j
  | 13 => fun i => if i = 2 then (if j = 7 then 0 else 1) else 0
  | 14 => if j = 7 then (fun _ => 0) else va_up (fun _ => 0) 0 1
  | 20 => fun i => if i = 0 then n else if i = 1 then N else 0
  | 21 => dg_f x n
  | 22 => fw
  | 24 => ft
  | _ => fun _ => 0
theorem zs_lt {x : Int32} {n N : Nat} {f fw ft : Nat → Nat} {R : Nat → Nat → Nat} (hn : n ≤ 7) (hN : N ≤ 128) (hf : ∀ i, i < n → f i ≤ 128) (hR : ∀ a b, R a b ≤ 128) (hw : ∀ i, fw i ≤ 128) (ht : ∀ i, ft i ≤ 128) : ∀ k j i, zs x n N f R fw ft (k, j) i < 2147483648
  | 0, j, i => by
    show (fun _ => 0 : Nat → Nat) i < _
    show 0 < _
    omega
  | 1, j, i => by
    show (fun i => if i = 0 then n else if i = 1 then N else 0 : Nat → Nat) i < _
    dsimp only
    split
    · omega
    · split <;> omega
  | 2, j, i => by
    show (dg_f x n : Nat → Nat) i < _
    unfold dg_f
    have := dg_r16 x i
    split <;> omega
  | 3, j, i => by
    show (fun i => if i < n then f i else 0 : Nat → Nat) i < _
    dsimp only
    split
    · rename_i h9
      have := hf i h9
      omega
    · omega
  | 4, j, i => by
    show (fun _ => 0 : Nat → Nat) i < _
    show 0 < _
    omega
  | 5, j, i => by
    show (fun _ => 0 : Nat → Nat) i < _
    show 0 < _
    omega
  | 6, j, i => by
    show (R j : Nat → Nat) i < _
    have := hR j i
    omega
  | 7, j, i => by
    show (fun _ => 0 : Nat → Nat) i < _
    show 0 < _
    omega
  | 8, j, i => by
    show (fun _ => 0 : Nat → Nat) i < _
    show 0 < _
    omega
  | 9, j, i => by
    show (fun _ => 0 : Nat → Nat) i < _
    show 0 < _
    omega
  | 10, j, i => by
    show (fun _ => 0 : Nat → Nat) i < _
    show 0 < _
    omega
  | 11, j, i => by
    show (fun _ => 0 : Nat → Nat) i < _
    show 0 < _
    omega
  | 12, j, i => by
    show (fun _ => 0 : Nat → Nat) i < _
    show 0 < _
    omega
  | 13, j, i => by
    show (fun i => if i = 2 then (if j = 7 then 0 else 1) else 0 : Nat → Nat) i < _
    dsimp only
    split
    · split <;> omega
    · omega
  | 14, j, i => by
    show (if j = 7 then (fun _ => 0) else va_up (fun _ => 0) 0 1 : Nat → Nat) i < _
    split
    · show 0 < _
      omega
    · unfold va_up
      split
      · omega
      · show 0 < _
        omega
  | 15, j, i => by
    show (fun _ => 0 : Nat → Nat) i < _
    show 0 < _
    omega
  | 16, j, i => by
    show (fun _ => 0 : Nat → Nat) i < _
    show 0 < _
    omega
  | 17, j, i => by
    show (fun _ => 0 : Nat → Nat) i < _
    show 0 < _
    omega
  | 18, j, i => by
    show (fun _ => 0 : Nat → Nat) i < _
    show 0 < _
    omega
  | 19, j, i => by
    show (fun _ => 0 : Nat → Nat) i < _
    show 0 < _
    omega
  | 20, j, i => by
    show (fun i => if i = 0 then n else if i = 1 then N else 0 : Nat → Nat) i < _
    dsimp only
    split
    · omega
    · split <;> omega
  | 21, j, i => by
    show (dg_f x n : Nat → Nat) i < _
    unfold dg_f
    have := dg_r16 x i
    split <;> omega
  | 22, j, i => by
    show (fw : Nat → Nat) i < _
    have := hw i
    omega
  | 23, j, i => by
    show (fun _ => 0 : Nat → Nat) i < _
    show 0 < _
    omega
  | 24, j, i => by
    show (ft : Nat → Nat) i < _
    have := ht i
    omega
  | 25, j, i => by
    show (fun _ => 0 : Nat → Nat) i < _
    show 0 < _
    omega
  | 26, j, i => by
    show (fun _ => 0 : Nat → Nat) i < _
    show 0 < _
    omega
  | 27, j, i => by
    show (fun _ => 0 : Nat → Nat) i < _
    show 0 < _
    omega
  | 28, j, i => by
    show (fun _ => 0 : Nat → Nat) i < _
    show 0 < _
    omega
  | 29, j, i => by
    show (fun _ => 0 : Nat → Nat) i < _
    show 0 < _
    omega
  | 30, j, i => by
    show (fun _ => 0 : Nat → Nat) i < _
    show 0 < _
    omega
  | 31, j, i => by
    show (fun _ => 0 : Nat → Nat) i < _
    show 0 < _
    omega
  | k + 32, j, i => by
    show 0 < _
    omega
section
variable {D : va_G} {C : Nat → ClassId} {a0 q h n P N : Nat} {x : Int32} {f fw ft : Nat → Nat} {R : Nat → Nat → Nat} {gm gc g : Nat → Option Nat} {w w0 w1 w2 wc : rw_M} {H : Heap} {h1 : Nat} {e9 : va_E}
/-- the world's description -/
abbrev zt (D : va_G) (C : Nat → ClassId) (q h n P N : Nat) (x : Int32) : zz_Z := (D, za q h n P, zz_k n, C, n, N, fun i => wt_t (dg_f x n) n (n - i))
theorem zt_at (hq : q + 1 = h) (ht : tp_e C h q x w w1 h1 n P N f gm gc g R wc w0) (hm : mi_s C (P + 40) (P + 39) (dg_f x n) fw ft (.int (nI n)) (.int (nI N)) (rw_up w1 (P + 39) e9) w2) (hW : rw_w D a0 w2 H) :
    ∀ k j, zz_k n (k, j) → va_at D CLS (za q h n P (k, j), zz_E (zt D C q h n P N x) (k, j) (zs x n N f R fw ft (k, j))) H := by
  obtain ⟨hg, hP, hN, hh, ⟨t1, t2, t3, t4⟩, hg4, k1, k2, k3, ⟨c1, c2, c3, c4, c5, c6, c7, c8, c9, c10⟩, hci, hR, hRb, hold⟩ := ht
  obtain ⟨m1, m2, m3, m4, m5, m6, m7, m8, m9, m10, m11, m12, m13⟩ := hm
  have a1 : ∀ a y, a < P + 39 → w1 a = some y → va_at D CLS (a, y) H := fun a y ha hy => (hW.2 a y ((m13 a (by omega) (by omega)).trans ((rw_ne (by omega) rfl).trans hy))).2
  have a2 : ∀ a y, a < P → a ≠ q → wc a = some y → va_at D CLS (a, y) H := fun a y ha hb hy => a1 a y (by omega) ((t4 a ha hb).trans hy)
  have am : ∀ a y, w2 a = some y → va_at D CLS (a, y) H := fun a y hy => (hW.2 a y hy).2
  have hz0 : (fun i => nI (va_up (fun _ => 0) 0 0 i)) = fun _ : Nat => nI 0 := funext fun i => by unfold va_up; split <;> rfl
  intro k j hk
  match k, j, hk with
  | 0, j, hk =>
    have hk : j = 0 := hk
    subst hk
    exact a1 q _ (by omega) t1
  | 1, j, hk =>
    have hk : j = 0 := hk
    subst hk
    exact a2 h _ (by omega) (by omega) c1
  | 2, j, hk =>
    have hk : j = 0 := hk
    subst hk
    exact a2 (h + 2) _ (by omega) (by omega) c2
  | 3, j, hk =>
    have hk : j = 0 := hk
    subst hk
    exact va_ati (a2 (h + 3) _ (by omega) (by omega) c3) (fun i hi => (if_pos hi).symm)
  | 4, j, hk =>
    have hk : j = 0 := hk
    subst hk
    exact a2 (h + 4) _ (by omega) (by omega) c4
  | 5, j, hk =>
    have hk : j = 0 := hk
    subst hk
    exact va_atq (a2 (h + 5) _ (by omega) (by omega) c5) (fun i hi => (if_pos hi).trans (congrArg some (show h + 3 + 2 + 1 + i = h + 6 + i by omega)))
  | 6, j, hk =>
    have hk : j < n := hk
    have h9 := a2 _ _ (show h + 3 + 3 + j < P by omega) (by omega) (c6 j hk)
    rw [show h + 3 + 3 + j = h + 6 + j by omega] at h9
    exact h9
  | 7, j, hk =>
    have hk : j = 0 := hk
    subst hk
    have h9 := a2 _ _ (show h + 3 + 3 + n < P by omega) (by omega) c7
    rw [show h + 3 + 3 + n = h + 6 + n by omega] at h9
    exact va_atq h9 (fun i hi => (hci i hi (by omega)).2.1.trans (congrArg some (show h + 3 + 5 + n + 2 * (n - 1 - i) = h + 8 + n + 2 * (n - 1 - i) by omega)))
  | 8, j, hk =>
    have hk : j < n := hk
    have h9 := a2 _ _ (show h + 3 + 5 + n + 2 * (n - 1 - j) < P by omega) (by omega) (c9 (n - 1 - j) (by omega)).1
    rw [show h + 3 + 5 + n + 2 * (n - 1 - j) = h + 8 + n + 2 * (n - 1 - j) by omega, show n - 1 - j + 1 = n - j by omega] at h9
    exact h9
  | 9, j, hk =>
    have hk : j = 0 := hk
    subst hk
    have h9 := a2 _ _ (show h + 3 + 4 + n < P by omega) (by omega) c8
    rw [show h + 3 + 4 + n = h + 7 + n by omega] at h9
    exact va_atq h9 (fun i hi => (hci i hi (by omega)).2.2.trans (congrArg some (show h + 3 + 6 + n + 2 * (n - 1 - i) = h + 9 + n + 2 * (n - 1 - i) by omega)))
  | 10, j, hk =>
    have hk : j < n := hk
    have h9 := a2 _ _ (show h + 3 + 6 + n + 2 * (n - 1 - j) < P by omega) (by omega) (c9 (n - 1 - j) (by omega)).2
    rw [show h + 3 + 6 + n + 2 * (n - 1 - j) = h + 9 + n + 2 * (n - 1 - j) by omega, show n - 1 - j + 1 = n - j by omega] at h9
    exact h9
  | 11, j, hk =>
    have hk : j = 0 := hk
    subst hk
    exact va_atq (a1 P _ (by omega) t2) (fun i hi => hg4 i hi)
  | 12, j, hk =>
    have hk : j < 7 := hk
    have h9 := a1 _ _ (by omega) (t3 j hk).1
    have e1 : za q h n P (13, j) = P + 1 + 5 * j + 1 := by show (if j = 7 then P + 36 else P + 2 + 5 * j) = _; rw [if_neg (by omega)]; omega
    have e2 : za q h n P (16, j) = P + 1 + 5 * j + 4 := by show P + 5 + 5 * j = _; omega
    show va_at D CLS (P + 1 + 5 * j, .inr (2, [.ref h, .ref (za q h n P (13, j)), .ref (za q h n P (16, j)), .int (nI 0)])) H
    rw [e1, e2]
    exact h9
  | 13, j, hk =>
    have hk : j < 8 := hk
    show va_at D CLS (if j = 7 then P + 36 else P + 2 + 5 * j, .inr (1, [.ref (if j = 7 then P + 37 else P + 3 + 5 * j), .ref (if j = 7 then P + 38 else P + 4 + 5 * j), .int (nI (if j = 7 then 0 else 1))])) H
    by_cases e : j = 7
    · rw [if_pos e, if_pos e, if_pos e, if_pos e]
      exact a1 _ _ (by omega) k1
    · have h9 := a1 _ _ (by omega) (t3 j (by omega)).2.1
      rw [if_neg e, if_neg e, if_neg e, if_neg e, show P + 2 + 5 * j = P + 1 + 5 * j + 1 by omega, show P + 3 + 5 * j = P + 1 + 5 * j + 2 by omega, show P + 4 + 5 * j = P + 1 + 5 * j + 3 by omega]
      exact h9
  | 14, j, hk =>
    have hk : j < 8 := hk
    show va_at D CLS (if j = 7 then P + 37 else P + 3 + 5 * j, zz_i (C 1) N (if j = 7 then (fun _ => 0) else va_up (fun _ => 0) 0 1)) H
    by_cases e : j = 7
    · rw [if_pos e, if_pos e]
      exact a1 _ _ (by omega) k2
    · have h9 := a1 _ _ (by omega) (t3 j (by omega)).2.2.1
      rw [if_neg e, if_neg e, show P + 3 + 5 * j = P + 1 + 5 * j + 2 by omega]
      exact h9
  | 15, j, hk =>
    have hk : j < 8 := hk
    show va_at D CLS (if j = 7 then P + 38 else P + 4 + 5 * j, zz_i (C 0) N (fun _ => 0)) H
    by_cases e : j = 7
    · rw [if_pos e]
      exact a1 _ _ (by omega) k3
    · have h9 := a1 _ _ (by omega) (t3 j (by omega)).2.2.2.1
      rw [if_neg e, show P + 4 + 5 * j = P + 1 + 5 * j + 3 by omega]
      exact va_ati h9 (fun i _ => by unfold va_up; split <;> rfl)
  | 16, j, hk =>
    have hk : j < 7 := hk
    have h9 := a1 _ _ (by omega) (t3 j hk).2.2.2.2
    rw [show P + 1 + 5 * j + 4 = P + 5 + 5 * j by omega] at h9
    exact h9
  | 17, j, hk => exact False.elim hk
  | 18, j, hk => exact False.elim hk
  | 19, j, hk => exact False.elim hk
  | 20, j, hk =>
    have hk : j = 0 := hk
    subst hk
    exact am _ _ m1
  | 21, j, hk =>
    have hk : j = 0 := hk
    subst hk
    exact am _ _ m2
  | 22, j, hk =>
    have hk : j = 0 := hk
    subst hk
    exact am _ _ m3
  | 23, j, hk =>
    have hk : j = 0 := hk
    subst hk
    exact am _ _ m4
  | 24, j, hk =>
    have hk : j = 0 := hk
    subst hk
    exact am _ _ m5
  | 25, j, hk =>
    have hk : j = 0 := hk
    subst hk
    exact am _ _ m6
  | 26, j, hk =>
    have hk : j = 0 := hk
    subst hk
    exact am _ _ m7
  | 27, j, hk =>
    have hk : j = 0 := hk
    subst hk
    exact am _ _ m8
  | 28, j, hk =>
    have hk : j = 0 := hk
    subst hk
    exact am _ _ m9
  | 29, j, hk =>
    have hk : j = 0 := hk
    subst hk
    exact am _ _ m10
  | 30, j, hk =>
    have hk : j = 0 := hk
    subst hk
    exact am _ _ m11
  | 31, j, hk =>
    have hk : j = 0 := hk
    subst hk
    exact am _ _ m12
  | k + 32, j, hk => exact False.elim hk
/-- the places are apart, the numbers small -/
theorem zt_w (hq : q + 1 = h) (ht : tp_e C h q x w w1 h1 n P N f gm gc g R wc w0) (hm : mi_s C (P + 40) (P + 39) (dg_f x n) fw ft (.int (nI n)) (.int (nI N)) (rw_up w1 (P + 39) e9) w2) (hW : rw_w D a0 w2 H) (hw : ∀ i, fw i ≤ 128) (ht2 : ∀ i, ft i ≤ 128) :
    hw_w D (zz_E (zt D C q h n P N x)) (za q h n P) (zz_k n) (zs x n N f R fw ft) H := by
  have hP := ht.2.1
  refine ⟨fun k hk => zt_at hq ht hm hW k.1 k.2 hk, fun j k hj hk e => ?_, fun k i => ?_⟩
  · have e1 := zi_all hq hP j.1 j.2 hj
    have e2 := zi_all hq hP k.1 k.2 hk
    have e3 : za q h n P (j.1, j.2) = za q h n P (k.1, k.2) := e
    rw [e3, e2] at e1
    exact e1.symm
  · have hg := ht.1
    refine zs_lt hg.1 (by rw [ht.2.2.1]; exact (dg_N0 hg).2) (fun i hi => ?_) ht.2.2.2.2.2.2.2.2.2.2.2.2.1 hw ht2 k.1 k.2 i
    rw [(ht.2.2.2.2.2.2.2.2.2.2.1 i hi (by omega)).1]
    exact wt_le hg dg_fr (by omega)
/-- and the invariant holds -/
theorem zt_J (ht : tp_e C h q x w w1 h1 n P N f gm gc g R wc w0) (hW : mi_W n (dg_f x n) fw n) (hT : ∀ a b, a < b → b < n → ft (7 * a + b) = fw b) : lw_J (zt D C q h n P N x) (zs x n N f R fw ft) := by
  obtain ⟨hg, hP, hN, hh, -, hg4, k1, k2, k3, -, hci, hR, hRb, hold⟩ := ht
  have hN1 := dg_N0 hg
  rw [← hN] at hN1
  have hf : ∀ i, i < n → (if i < n then f i else 0) = wt_t (dg_f x n) n (n - 1 - i) := fun i hi => by rw [if_pos hi]; exact (hci i hi (by omega)).1
  have h2 : ∀ i, i < n → 2 ≤ dg_f x n i := fun i hi => by
    rw [dg_fr i hi]
    have := (hg.2.1 i hi).1
    unfold dg_p at this
    omega
  obtain ⟨hw1, hw2, hw3⟩ := wt_w (r := dg_f x n) (w := fun i => if i < n then f i else 0) h2 hf
  have hpos : ∀ i, i < n → 0 < (if i < n then f i else 0) := fun i hi => hw1.pos' hi
  have hlt : ∀ i j, i < j → j < n → R i j < (if i < n then f i else 0) := fun i j h1 h2 => by
    rw [hR i j h1 h2]
    have h9 := hw1.lt h1 h2
    rw [if_pos h2] at h9
    exact h9
  refine lw_fin (S := fun _ _ => False) (cs_open ⟨hg.1, hN1.2, rfl, rfl, hw1, hN.trans hw2, fun i hi => (hw3 i hi).symm⟩ ⟨hpos, hlt⟩ rfl (fun j hj => ?_)) ⟨⟨hg.1, hN1.2, rfl, rfl, fun _ => by show 0 < 2; omega, fun _ => by show 0 < 2; omega, fun _ => by show 0 < 2; omega⟩, ⟨hw1, hN.trans hw2, fun i hi => ⟨rfl, ?_, rfl, hpos i hi⟩, fun i j h1 h2 => ⟨?_, hlt i j h1 h2⟩⟩, by show 0 < 2; omega, fun h9 => absurd h9 (by show ¬ (0 : Nat) = 1; omega)⟩ rfl
  · by_cases e : j = 7
    · subst e
      exact ⟨[], List.nodup_nil, fun a ha => absurd ha List.not_mem_nil, rfl, fun i hi => absurd hi (Nat.not_lt_zero _), fun a ha => rfl⟩
    · refine ⟨[0], List.nodup_cons.mpr ⟨List.not_mem_nil, List.nodup_nil⟩, fun a ha => ?_, ?_, fun i hi => ?_, fun a ha => ?_⟩
      · rw [List.mem_singleton.mp ha]
        exact hN1.1
      · show (if 2 = 2 then (if j = 7 then 0 else 1) else 0) = 1
        rw [if_pos rfl, if_neg e]
      · have h0 : i = 0 := by
          have : i < 1 := hi
          omega
        subst h0
        rfl
      · show (if j = 7 then (fun _ => 0) else va_up (fun _ => 0) 0 1 : Nat → Nat) a = _
        rw [if_neg e]
        unfold va_up
        by_cases e2 : a = 0
        · rw [if_pos e2, if_pos (List.mem_singleton.mpr e2)]
        · rw [if_neg e2, if_neg (fun q9 => e2 (List.mem_singleton.mp q9))]
  · show fw i = _
    rw [hW.1 i hi (by omega)]
    exact (hf i hi).symm
  · show ft (7 * i + j) = R i j
    rw [hT i j h1 h2, hR i j h1 h2, hW.1 j h2 (by omega), (hci j h2 (by omega)).1]
end
