/-! Constructors of the set of elements and of the subgroup. By program (wip/whole/gen/init1.py). -/
set_option maxHeartbeats 4000000 in
set_option maxRecDepth 20000 in
theorem rm_Set_init (l : Launch) (D : va_G) (C : Nat → ClassId) (a0 : Nat) (w : rw_M) (h : Nat) (q n : Nat) (hq : w q = some (.inr (1, [.null, .null, .int 0]))) (hn : n ≤ 128) : Met l y_Set_init (hw_c y_Set_init b_Set_init 2 none) (rw_r 1 2 256) (va_Pc [.ref q, .int (nI n)] (rw_b D C a0 (w, h))) (va_Qv (fun u9 => u9.2 = h + 2 ∧ u9.1 q = some (.inr (1, [.ref h, .ref (h + 1), .int (nI 0)])) ∧ u9.1 h = some (zz_i (C 1) n (fun _ => 0)) ∧ u9.1 (h + 1) = some (zz_i (C 0) n (fun _ => 0)) ∧ ∀ a, a < h → a ≠ q → u9.1 a = w a) (rw_b D C a0) (rw_A a0)) 2 256 (rw_A a0) := by
  refine rw_metv (post := (fun u9 => u9.2 = h + 2 ∧ u9.1 q = some (.inr (1, [.ref h, .ref (h + 1), .int (nI 0)])) ∧ u9.1 h = some (zz_i (C 1) n (fun _ => 0)) ∧ u9.1 (h + 1) = some (zz_i (C 0) n (fun _ => 0)) ∧ ∀ a, a < h → a ≠ q → u9.1 a = w a)) (by decide) (Nat.le_of_ble_eq_true rfl) ?_
  intro p e s m args below meth c ls Q Z hnm hret V hl
  have V : rw_v D a0 w h s.heap s.heap [] := V
  have X := Z.1
  have hl : lv_has ls 2 [(0, .ref q), (1, .int (nI n))] := hl
  have hqh := rw_lt V hq
  refine nw_aload_n X d_Set_init_0 rfl (lv_at hl 0 rfl) ?_
  refine rw_obj Z wi_121 hl.1 (by decide) (Nat.le_of_ble_eq_true rfl) d_Set_init_1 ?_
  refine nw_aload_n X d_Set_init_4 rfl (lv_at hl 0 rfl) ?_
  refine nw_iload_n X d_Set_init_5 rfl (lv_at hl 1 rfl) ?_
  refine rw_newz Z V (by first | assumption | omega) (show _ ≤ 2 by omega) (show _ ≤ 256 by omega) d_Set_init_6 (fun H V => ?_)
  refine rw_putF Z V hnm (ci := 1) (Cn := R_Set) (Tb := F_Set) (Nf := 3) (ref := R_Set) (ty := (.array .boolean)) (by repeat (first | exact rw_at | assumption | refine rw_ne (by omega) ?_)) rfl in_Set t_Set t_Set_ok n_Set 0 (by decide) wi_122 rfl rfl rfl (by decide +kernel) (by rfl) (by rfl) (by exact Nat.le_of_ble_eq_true rfl) d_Set_init_8 (fun H locs V => ?_)
  refine nw_aload_n X d_Set_init_11 rfl (lv_at hl 0 rfl) ?_
  refine nw_iload_n X d_Set_init_12 rfl (lv_at hl 1 rfl) ?_
  refine rw_newi Z V (by first | assumption | omega) (show _ ≤ 2 by omega) (show _ ≤ 256 by omega) d_Set_init_13 (fun H V => ?_)
  refine rw_putF Z V hnm (ci := 1) (Cn := R_Set) (Tb := F_Set) (Nf := 3) (ref := R_Set) (ty := (.array .int)) (by repeat (first | exact rw_at | assumption | refine rw_ne (by omega) ?_)) rfl in_Set t_Set t_Set_ok n_Set 1 (by decide) wi_123 rfl rfl rfl (by decide +kernel) (by rfl) (by rfl) (by exact Nat.le_of_ble_eq_true rfl) d_Set_init_15 (fun H locs V => ?_)
  refine nw_aload_n X d_Set_init_18 rfl (lv_at hl 0 rfl) ?_
  refine nw_iconst X 0 d_Set_init_19 (by decide) ?_
  refine rw_put Z V (ci := 1) (Cn := R_Set) (Tb := F_Set) (Nf := 3) (ref := R_Set) (ty := .int) (by repeat (first | exact rw_at | assumption | refine rw_ne (by omega) ?_)) rfl in_Set t_Set t_Set_ok n_Set 2 (by decide) wi_124 rfl rfl (by decide +kernel) (vp_nar_int _) (by rfl) (by exact Nat.le_of_ble_eq_true rfl) d_Set_init_20 (fun H locs V => ?_)
  refine W.widen (k := 2) (n := 256) (by omega) (by omega) ?_
  exact hret _ _ _ _ _ _ d_Set_init_23 V ⟨rfl, by repeat (first | exact rw_at | assumption | refine rw_ne (by omega) ?_), by repeat (first | exact rw_at | assumption | refine rw_ne (by omega) ?_), by repeat (first | exact rw_at | assumption | refine rw_ne (by omega) ?_), fun a h1 h2 => by repeat (first | rfl | refine rw_ne (by omega) ?_)⟩
set_option maxHeartbeats 4000000 in
set_option maxRecDepth 20000 in
theorem rm_Col_elementCount (l : Launch) (D : va_G) (C : Nat → ClassId) (a0 : Nat) (w : rw_M) (h : Nat) (q : Nat) (v0 v1 v2 v3 v4 v5 v6 v7 : Value) (n : Nat) (hv : v1 = .int (nI n)) (hq : w q = some (.inr (0, [v0, v1, v2, v3, v4, v5, v6, v7]))) : Met l y_Col_elementCount (hw_c y_Col_elementCount b_Col_elementCount 1 (some .int)) (rw_r 0 0 0) (va_Pc [.ref q] (rw_b D C a0 (w, h))) (va_Qi (fun r u9 => u9 = (w, h) ∧ r = nI n) (rw_b D C a0) (rw_A a0)) 0 0 (rw_A a0) := by
  refine rw_meti (post := (fun r u9 => u9 = (w, h) ∧ r = nI n)) (by decide) (Nat.le_of_ble_eq_true rfl) ?_
  intro p e s m args below meth c ls Q Z hnm hret V hl
  have V : rw_v D a0 w h s.heap s.heap [] := V
  have X := Z.1
  have hl : lv_has ls 1 [(0, .ref q)] := hl
  refine nw_aload_n X d_Col_elementCount_0 rfl (lv_at hl 0 rfl) ?_
  refine rw_get Z V (ci := 0) (Cn := R_Col) (Tb := F_Col) (Nf := 8) (ref := R_Col) (by repeat (first | exact rw_at | assumption | refine rw_ne (by omega) ?_)) rfl in_Col 1 (by decide) wi_80 rfl (by rfl) d_Col_elementCount_1 ?_
  refine W.widen (k := 0) (n := 0) (by omega) (by omega) ?_
  rw [hv]
  exact hret _ _ _ _ _ _ _ d_Col_elementCount_4 V ⟨rfl, rfl⟩
set_option maxHeartbeats 4000000 in
set_option maxRecDepth 20000 in
theorem rm_Set_add (l : Launch) (D : va_G) (C : Nat → ClassId) (a0 : Nat) (w : rw_M) (h : Nat) (q q1 q2 n : Nat) (f g : Nat → Nat) (hq : w q = some (.inr (1, [.ref q1, .ref q2, .int (nI 0)]))) (hq1 : w q1 = some (zz_i (C 1) n f)) (hq2 : w q2 = some (zz_i (C 0) n g)) (d1 : q ≠ q1) (d2 : q ≠ q2) (d3 : q1 ≠ q2) (hn : n ≤ 128) (hn0 : 0 < n) (hf : f 0 = 0) : Met l y_Set_add (hw_c y_Set_add b_Set_add 2 none) (rw_r 0 0 0) (va_Pc [.ref q, .int (nI 0)] (rw_b D C a0 (w, h))) (va_Qv (fun u9 => u9.2 = h ∧ u9.1 q = some (.inr (1, [.ref q1, .ref q2, .int (nI 1)])) ∧ u9.1 q1 = some (zz_i (C 1) n (va_up f 0 1)) ∧ u9.1 q2 = some (zz_i (C 0) n (va_up g 0 0)) ∧ ∀ a, a ≠ q → a ≠ q1 → a ≠ q2 → u9.1 a = w a) (rw_b D C a0) (rw_A a0)) 0 0 (rw_A a0) := by
  refine rw_metv (post := (fun u9 => u9.2 = h ∧ u9.1 q = some (.inr (1, [.ref q1, .ref q2, .int (nI 1)])) ∧ u9.1 q1 = some (zz_i (C 1) n (va_up f 0 1)) ∧ u9.1 q2 = some (zz_i (C 0) n (va_up g 0 0)) ∧ ∀ a, a ≠ q → a ≠ q1 → a ≠ q2 → u9.1 a = w a)) (by decide) (Nat.le_of_ble_eq_true rfl) ?_
  intro p e s m args below meth c ls Q Z hnm hret V hl
  have V : rw_v D a0 w h s.heap s.heap [] := V
  have X := Z.1
  have hl : lv_has ls 2 [(0, .ref q), (1, .int (nI 0))] := hl
  refine nw_aload_n X d_Set_add_0 rfl (lv_at hl 0 rfl) ?_
  refine rw_get Z V (ci := 1) (Cn := R_Set) (Tb := F_Set) (Nf := 3) (ref := R_Set) (by repeat (first | exact rw_at | assumption | refine rw_ne (by omega) ?_)) rfl in_Set 0 (by decide) wi_122 rfl (by rfl) d_Set_add_1 ?_
  refine nw_iload_n X d_Set_add_4 rfl (lv_at hl 1 rfl) ?_
  refine rw_zald Z V (by repeat (first | exact rw_at | assumption | refine rw_ne (by omega) ?_)) (by first | assumption | omega) (by first | assumption | omega) d_Set_add_5 ?_
  refine nw_if_ne X (tgt := 36) d_Set_add_6 (by decide) (by omega) (fun hc => ?_) (fun hc => ?_)
  · skip
    exact absurd hf hc
  · skip
    refine nw_aload_n X d_Set_add_9 rfl (lv_at hl 0 rfl) ?_
    refine rw_get Z V (ci := 1) (Cn := R_Set) (Tb := F_Set) (Nf := 3) (ref := R_Set) (by repeat (first | exact rw_at | assumption | refine rw_ne (by omega) ?_)) rfl in_Set 0 (by decide) wi_122 rfl (by rfl) d_Set_add_10 ?_
    refine nw_iload_n X d_Set_add_13 rfl (lv_at hl 1 rfl) ?_
    refine nw_iconst X 1 d_Set_add_14 (by decide) ?_
    refine rw_zast Z V (by repeat (first | exact rw_at | assumption | refine rw_ne (by omega) ?_)) (by first | assumption | omega) (by first | assumption | omega) (by first | assumption | omega) d_Set_add_15 (fun H locs V => ?_)
    refine nw_aload_n X d_Set_add_16 rfl (lv_at hl 0 rfl) ?_
    refine rw_get Z V (ci := 1) (Cn := R_Set) (Tb := F_Set) (Nf := 3) (ref := R_Set) (by repeat (first | exact rw_at | assumption | refine rw_ne (by omega) ?_)) rfl in_Set 1 (by decide) wi_123 rfl (by rfl) d_Set_add_17 ?_
    refine nw_aload_n X d_Set_add_20 rfl (lv_at hl 0 rfl) ?_
    refine rw_get Z V (ci := 1) (Cn := R_Set) (Tb := F_Set) (Nf := 3) (ref := R_Set) (by repeat (first | exact rw_at | assumption | refine rw_ne (by omega) ?_)) rfl in_Set 2 (by decide) wi_124 rfl (by rfl) d_Set_add_21 ?_
    refine nw_iload_n X d_Set_add_24 rfl (lv_at hl 1 rfl) ?_
    refine rw_iast Z V (by repeat (first | exact rw_at | assumption | refine rw_ne (by omega) ?_)) (by first | assumption | omega) (by first | assumption | omega) d_Set_add_25 (fun H locs V => ?_)
    refine nw_aload_n X d_Set_add_26 rfl (lv_at hl 0 rfl) ?_
    refine nw_dup X d_Set_add_27 rfl ?_
    refine rw_get Z V (ci := 1) (Cn := R_Set) (Tb := F_Set) (Nf := 3) (ref := R_Set) (by repeat (first | exact rw_at | assumption | refine rw_ne (by omega) ?_)) rfl in_Set 2 (by decide) wi_124 rfl (by rfl) d_Set_add_28 ?_
    refine nw_iconst X 1 d_Set_add_31 (by decide) ?_
    refine nw_iadd X d_Set_add_32 ?_
    refine rw_put Z V (ci := 1) (Cn := R_Set) (Tb := F_Set) (Nf := 3) (ref := R_Set) (ty := .int) (by repeat (first | exact rw_at | assumption | refine rw_ne (by omega) ?_)) rfl in_Set t_Set t_Set_ok n_Set 2 (by decide) wi_124 rfl rfl (by decide +kernel) (vp_nar_int _) (by rfl) (by exact Nat.le_of_ble_eq_true rfl) d_Set_add_33 (fun H locs V => ?_)
    refine W.widen (k := 0) (n := 0) (by omega) (by omega) ?_
    exact hret _ _ _ _ _ _ d_Set_add_36 V ⟨rfl, by repeat (first | exact rw_at | assumption | refine rw_ne (by omega) ?_), by repeat (first | exact rw_at | assumption | refine rw_ne (by omega) ?_), by repeat (first | exact rw_at | assumption | refine rw_ne (by omega) ?_), fun a h1 h2 h3 => by repeat (first | rfl | refine rw_ne (by omega) ?_)⟩
set_option maxHeartbeats 4000000 in
set_option maxRecDepth 20000 in
theorem rm_Sub_init (l : Launch) (D : va_G) (C : Nat → ClassId) (a0 : Nat) (w : rw_M) (h : Nat) (q g n : Nat) (v0 v2 v3 v4 v5 v6 v7 : Value) (hq : w q = some (.inr (2, [.null, .null, .null, .int 0]))) (hg : w g = some (.inr (0, [v0, .int (nI n), v2, v3, v4, v5, v6, v7]))) (hn : n ≤ 128) (hn0 : 0 < n) : Met l y_Sub_init (hw_c y_Sub_init b_Sub_init 2 none) (rw_r 2 4 272) (va_Pc [.ref q, .ref g] (rw_b D C a0 (w, h))) (va_Qv (fun u9 => u9.2 = h + 4 ∧ u9.1 q = some (.inr (2, [.ref g, .ref h, .ref (h + 3), .int (nI 0)])) ∧ u9.1 h = some (.inr (1, [.ref (h + 1), .ref (h + 2), .int (nI 1)])) ∧ u9.1 (h + 1) = some (zz_i (C 1) n (va_up (fun _ => 0) 0 1)) ∧ u9.1 (h + 2) = some (zz_i (C 0) n (va_up (fun _ => 0) 0 0)) ∧ u9.1 (h + 3) = some (zz_i (C 0) 7 (fun _ => 0)) ∧ ∀ a, a < h → a ≠ q → u9.1 a = w a) (rw_b D C a0) (rw_A a0)) 4 272 (rw_A a0) := by
  refine rw_metv (post := (fun u9 => u9.2 = h + 4 ∧ u9.1 q = some (.inr (2, [.ref g, .ref h, .ref (h + 3), .int (nI 0)])) ∧ u9.1 h = some (.inr (1, [.ref (h + 1), .ref (h + 2), .int (nI 1)])) ∧ u9.1 (h + 1) = some (zz_i (C 1) n (va_up (fun _ => 0) 0 1)) ∧ u9.1 (h + 2) = some (zz_i (C 0) n (va_up (fun _ => 0) 0 0)) ∧ u9.1 (h + 3) = some (zz_i (C 0) 7 (fun _ => 0)) ∧ ∀ a, a < h → a ≠ q → u9.1 a = w a)) (by decide) (Nat.le_of_ble_eq_true rfl) ?_
  intro p e s m args below meth c ls Q Z hnm hret V hl
  have V : rw_v D a0 w h s.heap s.heap [] := V
  have X := Z.1
  have hl : lv_has ls 2 [(0, .ref q), (1, .ref g)] := hl
  have hqh := rw_lt V hq
  have hgh := rw_lt V hg
  have hgq : g ≠ q := fun e9 => by rw [e9, hq] at hg; cases hg
  refine nw_aload_n X d_Sub_init_0 rfl (lv_at hl 0 rfl) ?_
  refine rw_obj Z wi_111 hl.1 (by decide) (Nat.le_of_ble_eq_true rfl) d_Sub_init_1 ?_
  refine nw_aload_n X d_Sub_init_4 rfl (lv_at hl 0 rfl) ?_
  refine nw_aload_n X d_Sub_init_5 rfl (lv_at hl 1 rfl) ?_
  refine rw_putF Z V hnm (ci := 2) (Cn := R_Sub) (Tb := F_Sub) (Nf := 4) (ref := R_Sub) (ty := (.object "CollectedGroup$Collector")) (by repeat (first | exact rw_at | assumption | refine rw_ne (by omega) ?_)) rfl in_Sub t_Sub t_Sub_ok n_Sub 0 (by decide) wi_137 rfl rfl rfl (by decide +kernel) (by rfl) (by rfl) (by exact Nat.le_of_ble_eq_true rfl) d_Sub_init_6 (fun H locs V => ?_)
  refine nw_aload_n X d_Sub_init_9 rfl (lv_at hl 0 rfl) ?_
  refine rw_new Z V 1 rfl in_Set t_Set t_Set_ok wi_112 wi_113 wi_38 [.null, .null, .int 0] (by decide) (show _ ≤ 4 by omega) (show _ ≤ 272 by omega) d_Sub_init_10 (fun H V => ?_)
  refine nw_dup X d_Sub_init_13 rfl ?_
  refine nw_aload_n X d_Sub_init_14 rfl (lv_at hl 1 rfl) ?_
  refine rw_callVi Z V (ci := 0) (by repeat (first | exact rw_at | assumption | refine rw_ne (by omega) ?_)) rfl (rm_Col_elementCount l D C a0 _ _ g v0 (.int (nI n)) v2 v3 v4 v5 v6 v7 n rfl (by repeat (first | exact rw_at | assumption | refine rw_ne (by omega) ?_))) cs_Sub_17 ⟨by decide, Nat.le_of_ble_eq_true rfl⟩ rfl hl.1 rfl (Nat.le_of_ble_eq_true rfl) ⟨show _ ≤ 4 by omega, show _ ≤ 272 by omega⟩ d_Sub_init_15 (fun r w1 h1 H locs V hr => ?_)
  obtain ⟨hr, rfl⟩ := hr
  cases hr
  refine rw_callI (n := 1) Z V (rm_Set_init l D C a0 _ _ h n (by repeat (first | exact rw_at | assumption | refine rw_ne (by omega) ?_)) hn) ⟨wi_118, wi_38, wi_120, by decide +kernel⟩ ⟨rfl, wi_119⟩ ⟨by decide, Nat.le_of_ble_eq_true rfl⟩ rfl hl.1 rfl (Nat.le_of_ble_eq_true rfl) ⟨show _ ≤ 4 by omega, show _ ≤ 272 by omega⟩ d_Sub_init_18 (fun w1 h1 H locs V hr => ?_)
  obtain ⟨rfl, r1, r2, r3, r4⟩ := hr
  have hq1 : w1 q = some (.inr (2, [.ref g, .null, .null, .int 0])) := (r4 q (by omega) (by omega)).trans (by repeat (first | exact rw_at | assumption | refine rw_ne (by omega) ?_))
  refine rw_putF Z V hnm (ci := 2) (Cn := R_Sub) (Tb := F_Sub) (Nf := 4) (ref := R_Sub) (ty := (.object "CollectedGroup$ElementSet")) (by repeat (first | exact rw_at | assumption | refine rw_ne (by omega) ?_)) rfl in_Sub t_Sub t_Sub_ok n_Sub 1 (by decide) wi_138 rfl rfl rfl (by decide +kernel) (by rfl) (by rfl) (by exact Nat.le_of_ble_eq_true rfl) d_Sub_init_21 (fun H locs V => ?_)
  refine nw_aload_n X d_Sub_init_24 rfl (lv_at hl 0 rfl) ?_
  refine nw_bipush X 7 d_Sub_init_25 (by decide) ?_
  refine rw_newi Z V (by first | assumption | omega) (show _ ≤ 4 by omega) (show _ ≤ 272 by omega) d_Sub_init_27 (fun H V => ?_)
  refine rw_putF Z V hnm (ci := 2) (Cn := R_Sub) (Tb := F_Sub) (Nf := 4) (ref := R_Sub) (ty := (.array .int)) (by repeat (first | exact rw_at | assumption | refine rw_ne (by omega) ?_)) rfl in_Sub t_Sub t_Sub_ok n_Sub 2 (by decide) wi_139 rfl rfl rfl (by decide +kernel) (by rfl) (by rfl) (by exact Nat.le_of_ble_eq_true rfl) d_Sub_init_29 (fun H locs V => ?_)
  refine nw_aload_n X d_Sub_init_32 rfl (lv_at hl 0 rfl) ?_
  refine nw_iconst X 0 d_Sub_init_33 (by decide) ?_
  refine rw_put Z V (ci := 2) (Cn := R_Sub) (Tb := F_Sub) (Nf := 4) (ref := R_Sub) (ty := .int) (by repeat (first | exact rw_at | assumption | refine rw_ne (by omega) ?_)) rfl in_Sub t_Sub t_Sub_ok n_Sub 3 (by decide) wi_140 rfl rfl (by decide +kernel) (vp_nar_int _) (by rfl) (by exact Nat.le_of_ble_eq_true rfl) d_Sub_init_34 (fun H locs V => ?_)
  refine nw_aload_n X d_Sub_init_37 rfl (lv_at hl 0 rfl) ?_
  refine rw_get Z V (ci := 2) (Cn := R_Sub) (Tb := F_Sub) (Nf := 4) (ref := R_Sub) (by repeat (first | exact rw_at | assumption | refine rw_ne (by omega) ?_)) rfl in_Sub 1 (by decide) wi_138 rfl (by rfl) d_Sub_init_38 ?_
  refine nw_iconst X 0 d_Sub_init_41 (by decide) ?_
  refine rw_callVv Z V (ci := 1) (by repeat (first | exact rw_at | assumption | refine rw_ne (by omega) ?_)) rfl (rm_Set_add l D C a0 _ _ h (h + 1) (h + 2) n (fun _ => 0) (fun _ => 0) (by repeat (first | exact rw_at | assumption | refine rw_ne (by omega) ?_)) (by repeat (first | exact rw_at | assumption | refine rw_ne (by omega) ?_)) (by repeat (first | exact rw_at | assumption | refine rw_ne (by omega) ?_)) (by omega) (by omega) (by omega) hn hn0 rfl) cs_Sub_38 ⟨by decide, Nat.le_of_ble_eq_true rfl⟩ rfl hl.1 rfl (Nat.le_of_ble_eq_true rfl) ⟨show _ ≤ 4 by omega, show _ ≤ 272 by omega⟩ d_Sub_init_42 (fun w1 h1 H locs V hr => ?_)
  obtain ⟨rfl, t1, t2, t3, t4⟩ := hr
  refine W.widen (k := 4) (n := 272) (by omega) (by omega) ?_
  exact hret _ _ _ _ _ _ d_Sub_init_45 V ⟨rfl, (t4 q (by omega) (by omega) (by omega)).trans (by repeat (first | exact rw_at | assumption | refine rw_ne (by omega) ?_)), t1, t2, t3, (t4 _ (by omega) (by omega) (by omega)).trans (by repeat (first | exact rw_at | assumption | refine rw_ne (by omega) ?_)), fun a h1 h2 => (t4 a (by omega) (by omega) (by omega)).trans (by repeat (first | exact (r4 a (by omega) (by omega)).trans (by repeat (first | rfl | refine rw_ne (by omega) ?_)) | refine rw_ne (by omega) ?_))⟩
