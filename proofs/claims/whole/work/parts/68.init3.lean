/-! The Collector's constructor. By program (wip/whole/gen/init3.py). -/
set_option maxHeartbeats 4000000 in
set_option maxRecDepth 20000 in
theorem rm_Col_init (l : Launch) (D : va_G) (C : Nat → ClassId) (a0 : Nat) (w : rw_M) (h : Nat) (q a1 n : Nat) (r : Nat → Nat) (hq : w q = some (.inr (0, [.int 0, .int 0, .null, .null, .null, .null, .null, .null]))) (ha1 : w a1 = some (zz_i (C 0) n r)) (hn7 : n ≤ 7) (hb : ∀ t, t ≤ n → wt_t r n t ≤ 128) : Met l y_Col_init (hw_c y_Col_init b_Col_init 5 none) (rw_r 1 26 1876) (va_Pc [.ref q, .ref a1] (rw_b D C a0 (w, h))) (va_Qv (fun u9 => ∃ f gm gc R, u9.2 = h + 5 + n + 2 * n ∧ cl_s C h n q a1 r f gm gc R n (.int (nI (wt_t r n n))) w u9.1 ∧ cl_i h n r f gm gc n ∧ (∀ a b, a < b → b < n → R a b = f b) ∧ ∀ a b, R a b ≤ 128) (rw_b D C a0) (rw_A a0)) 26 1876 (rw_A a0) := by
  refine rw_metv (post := (fun u9 => ∃ f gm gc R, u9.2 = h + 5 + n + 2 * n ∧ cl_s C h n q a1 r f gm gc R n (.int (nI (wt_t r n n))) w u9.1 ∧ cl_i h n r f gm gc n ∧ (∀ a b, a < b → b < n → R a b = f b) ∧ ∀ a b, R a b ≤ 128)) (by decide) (Nat.le_of_ble_eq_true rfl) ?_
  intro p e s m args below meth c ls Q Z hnm hret V hl
  have V : rw_v D a0 w h s.heap s.heap [] := V
  have X := Z.1
  have hl : lv_has ls 5 [(0, .ref q), (1, .ref a1)] := hl
  have hqh := rw_lt V hq
  have hah := rw_lt V ha1
  have hqa : a1 ≠ q := fun e9 => by rw [e9, hq] at ha1; cases ha1
  have hnn : n * n ≤ 7 * 7 := Nat.mul_le_mul hn7 hn7
  refine nw_aload_n X d_Col_init_0 rfl (lv_at hl 0 rfl) ?_
  refine rw_obj Z wi_75 hl.1 (by decide) (Nat.le_of_ble_eq_true rfl) d_Col_init_1 ?_
  refine nw_aload_n X d_Col_init_4 rfl (lv_at hl 0 rfl) ?_
  refine nw_aload_n X d_Col_init_5 rfl (lv_at hl 1 rfl) ?_
  refine rw_alen Z V (by repeat (first | exact rw_at | exact rw_gat | assumption | refine rw_ne (by omega) ?_ | refine rw_gne (by omega) ?_)) d_Col_init_6 ?_
  refine rw_putF Z V hnm (ci := 0) (Cn := R_Col) (Tb := F_Col) (Nf := 8) (ref := R_Col) (ty := .int) (by repeat (first | exact rw_at | exact rw_gat | assumption | refine rw_ne (by omega) ?_ | refine rw_gne (by omega) ?_)) rfl in_Col t_Col t_Col_ok n_Col 0 (by decide) wi_79 rfl rfl rfl (by decide +kernel) (vp_nar_int _) (by rfl) (by exact Nat.le_of_ble_eq_true rfl) d_Col_init_7 (fun H locs V => ?_)
  refine nw_aload_n X d_Col_init_10 rfl (lv_at hl 0 rfl) ?_
  refine nw_aload_n X d_Col_init_11 rfl (lv_at hl 1 rfl) ?_
  refine rw_putF Z V hnm (ci := 0) (Cn := R_Col) (Tb := F_Col) (Nf := 8) (ref := R_Col) (ty := (.array .int)) (by repeat (first | exact rw_at | exact rw_gat | assumption | refine rw_ne (by omega) ?_ | refine rw_gne (by omega) ?_)) rfl in_Col t_Col t_Col_ok n_Col 2 (by decide) wi_81 rfl rfl rfl (by decide +kernel) (by rfl) (by rfl) (by exact Nat.le_of_ble_eq_true rfl) d_Col_init_12 (fun H locs V => ?_)
  refine nw_aload_n X d_Col_init_15 rfl (lv_at hl 0 rfl) ?_
  refine nw_aload_n X d_Col_init_16 rfl (lv_at hl 0 rfl) ?_
  refine rw_get Z V (ci := 0) (Cn := R_Col) (Tb := F_Col) (Nf := 8) (ref := R_Col) (by repeat (first | exact rw_at | exact rw_gat | assumption | refine rw_ne (by omega) ?_ | refine rw_gne (by omega) ?_)) rfl in_Col 0 (by decide) wi_79 rfl (by rfl) d_Col_init_17 ?_
  refine rw_newi Z V (by omega) (show _ ≤ 26 by omega) (show _ ≤ 1876 by omega) d_Col_init_20 (fun H V => ?_)
  refine rw_putF Z V hnm (ci := 0) (Cn := R_Col) (Tb := F_Col) (Nf := 8) (ref := R_Col) (ty := (.array .int)) (by repeat (first | exact rw_at | exact rw_gat | assumption | refine rw_ne (by omega) ?_ | refine rw_gne (by omega) ?_)) rfl in_Col t_Col t_Col_ok n_Col 3 (by decide) wi_82 rfl rfl rfl (by decide +kernel) (by rfl) (by rfl) (by exact Nat.le_of_ble_eq_true rfl) d_Col_init_22 (fun H locs V => ?_)
  refine nw_aload_n X d_Col_init_25 rfl (lv_at hl 0 rfl) ?_
  refine nw_aload_n X d_Col_init_26 rfl (lv_at hl 0 rfl) ?_
  refine rw_get Z V (ci := 0) (Cn := R_Col) (Tb := F_Col) (Nf := 8) (ref := R_Col) (by repeat (first | exact rw_at | exact rw_gat | assumption | refine rw_ne (by omega) ?_ | refine rw_gne (by omega) ?_)) rfl in_Col 0 (by decide) wi_79 rfl (by rfl) d_Col_init_27 ?_
  refine rw_newi Z V (by omega) (show _ ≤ 26 by omega) (show _ ≤ 1876 by omega) d_Col_init_30 (fun H V => ?_)
  refine rw_putF Z V hnm (ci := 0) (Cn := R_Col) (Tb := F_Col) (Nf := 8) (ref := R_Col) (ty := (.array .int)) (by repeat (first | exact rw_at | exact rw_gat | assumption | refine rw_ne (by omega) ?_ | refine rw_gne (by omega) ?_)) rfl in_Col t_Col t_Col_ok n_Col 4 (by decide) wi_83 rfl rfl rfl (by decide +kernel) (by rfl) (by rfl) (by exact Nat.le_of_ble_eq_true rfl) d_Col_init_32 (fun H locs V => ?_)
  refine nw_aload_n X d_Col_init_35 rfl (lv_at hl 0 rfl) ?_
  refine nw_aload_n X d_Col_init_36 rfl (lv_at hl 0 rfl) ?_
  refine rw_get Z V (ci := 0) (Cn := R_Col) (Tb := F_Col) (Nf := 8) (ref := R_Col) (by repeat (first | exact rw_at | exact rw_gat | assumption | refine rw_ne (by omega) ?_ | refine rw_gne (by omega) ?_)) rfl in_Col 0 (by decide) wi_79 rfl (by rfl) d_Col_init_37 ?_
  refine nw_aload_n X d_Col_init_40 rfl (lv_at hl 0 rfl) ?_
  refine rw_get Z V (ci := 0) (Cn := R_Col) (Tb := F_Col) (Nf := 8) (ref := R_Col) (by repeat (first | exact rw_at | exact rw_gat | assumption | refine rw_ne (by omega) ?_ | refine rw_gne (by omega) ?_)) rfl in_Col 0 (by decide) wi_79 rfl (by rfl) d_Col_init_41 ?_
  refine rw_mna Z V (by omega) wi_76 (show _ ≤ 26 by omega) (show _ ≤ 1876 by omega) d_Col_init_44 (fun H V => ?_)
  refine rw_putF Z V hnm (ci := 0) (Cn := R_Col) (Tb := F_Col) (Nf := 8) (ref := R_Col) (ty := (.array (.array .int))) (by repeat (first | exact rw_at | exact rw_gat | assumption | refine rw_ne (by omega) ?_ | refine rw_gne (by omega) ?_)) rfl in_Col t_Col t_Col_ok n_Col 5 (by decide) wi_84 rfl rfl rfl (by decide +kernel) (by rfl) (by rfl) (by exact Nat.le_of_ble_eq_true rfl) d_Col_init_48 (fun H locs V => ?_)
  refine nw_aload_n X d_Col_init_51 rfl (lv_at hl 0 rfl) ?_
  refine nw_aload_n X d_Col_init_52 rfl (lv_at hl 0 rfl) ?_
  refine rw_get Z V (ci := 0) (Cn := R_Col) (Tb := F_Col) (Nf := 8) (ref := R_Col) (by repeat (first | exact rw_at | exact rw_gat | assumption | refine rw_ne (by omega) ?_ | refine rw_gne (by omega) ?_)) rfl in_Col 0 (by decide) wi_79 rfl (by rfl) d_Col_init_53 ?_
  refine rw_newqA Z V (by omega) wi_78 (show _ ≤ 26 by omega) (show _ ≤ 1876 by omega) d_Col_init_56 (fun H V => ?_)
  refine rw_putF Z V hnm (ci := 0) (Cn := R_Col) (Tb := F_Col) (Nf := 8) (ref := R_Col) (ty := (.array (.array .int))) (by repeat (first | exact rw_at | exact rw_gat | assumption | refine rw_ne (by omega) ?_ | refine rw_gne (by omega) ?_)) rfl in_Col t_Col t_Col_ok n_Col 6 (by decide) wi_85 rfl rfl rfl (by decide +kernel) (by rfl) (by rfl) (by exact Nat.le_of_ble_eq_true rfl) d_Col_init_59 (fun H locs V => ?_)
  refine nw_aload_n X d_Col_init_62 rfl (lv_at hl 0 rfl) ?_
  refine nw_aload_n X d_Col_init_63 rfl (lv_at hl 0 rfl) ?_
  refine rw_get Z V (ci := 0) (Cn := R_Col) (Tb := F_Col) (Nf := 8) (ref := R_Col) (by repeat (first | exact rw_at | exact rw_gat | assumption | refine rw_ne (by omega) ?_ | refine rw_gne (by omega) ?_)) rfl in_Col 0 (by decide) wi_79 rfl (by rfl) d_Col_init_64 ?_
  refine rw_newqA Z V (by omega) wi_78 (show _ ≤ 26 by omega) (show _ ≤ 1876 by omega) d_Col_init_67 (fun H V => ?_)
  rw [show h + 1 + 1 + 1 + n + 1 = h + 4 + n by omega] at V ⊢
  refine rw_putF Z V hnm (ci := 0) (Cn := R_Col) (Tb := F_Col) (Nf := 8) (ref := R_Col) (ty := (.array (.array .int))) (by repeat (first | exact rw_at | exact rw_gat | assumption | refine rw_ne (by omega) ?_ | refine rw_gne (by omega) ?_)) rfl in_Col t_Col t_Col_ok n_Col 7 (by decide) wi_86 rfl rfl rfl (by decide +kernel) (by rfl) (by rfl) (by exact Nat.le_of_ble_eq_true rfl) d_Col_init_70 (fun H locs V => ?_)
  refine nw_iconst X 1 d_Col_init_73 (by decide) ?_
  refine nw_istore_n X (lv' := [(2, _), (0, _), (1, _)]) d_Col_init_74 rfl hl (by decide) rfl (fun ls hl => ?_)
  refine nw_aload_n X d_Col_init_75 rfl (lv_at hl 1 rfl) ?_
  refine rw_get Z V (ci := 0) (Cn := R_Col) (Tb := F_Col) (Nf := 8) (ref := R_Col) (by repeat (first | exact rw_at | exact rw_gat | assumption | refine rw_ne (by omega) ?_ | refine rw_gne (by omega) ?_)) rfl in_Col 0 (by decide) wi_79 rfl (by rfl) d_Col_init_76 ?_
  refine nw_iconst X 1 d_Col_init_79 (by decide) ?_
  refine nw_isub1 X d_Col_init_80 ?_
  refine nw_istore_n X (lv' := [(3, _), (2, _), (0, _), (1, _)]) d_Col_init_81 rfl hl (by decide) rfl (fun ls hl => ?_)
  have LP82 : ∀ (d t k : Nat) (f : Nat → Nat) (gm gc : Nat → Option Nat) (w1 : rw_M) (H : Heap) (locs : List Loc) (ls : Array Slot), k < d → (t + k = n) → (cl_s C h n q a1 r f gm gc (fun _ _ => 0) t (.int 0) w w1) → (cl_i h n r f gm gc t) → rw_v D a0 w1 (h + 5 + n + 2 * t) s.heap H locs →  lv_has ls 5 [(0, .ref q), (2, .int (nI (wt_t r n t))), (3, .int (nI k - 1))] →  W p l e (rw_r 1 26 1876) s m args below meth c H locs (12 + 2 * t) (84 + 256 * t) Q (F0 m 82 ls []) := by
    intro d
    induction d with
    | zero => intro t k f gm gc w1 H locs ls hd; exact absurd hd (Nat.not_lt_zero _)
    | succ d IH82 =>
      intro t k f gm gc w1 H locs ls hd htk hcl hci V hl
      obtain ⟨c1, c2, c3, c4, c5, c6, c7, c8, c9, c10⟩ := id hcl
      refine nw_iload_n X d_Col_init_82 rfl (lv_at hl 2 rfl) ?_
      refine nw_if_ltp X (tgt := 126) d_Col_init_83 (by decide) (by omega) (fun hk0 => ?_) (fun i hki => ?_)
      · skip
        subst hk0
        have htn : t = n := by omega
        subst htn
        refine nw_aload_n X d_Col_init_126 rfl (lv_at hl 0 rfl) ?_
        refine nw_iload_n X d_Col_init_127 rfl (lv_at hl 1 rfl) ?_
        refine rw_putF Z V hnm (ci := 0) (Cn := R_Col) (Tb := F_Col) (Nf := 8) (ref := R_Col) (ty := .int) (by repeat (first | exact rw_at | exact rw_gat | assumption | refine rw_ne (by omega) ?_ | refine rw_gne (by omega) ?_)) rfl in_Col t_Col t_Col_ok n_Col 1 (by decide) wi_80 rfl rfl rfl (by decide +kernel) (vp_nar_int _) (by rfl) (by exact Nat.le_of_ble_eq_true rfl) d_Col_init_128 (fun H locs V => ?_)
        have hcl := cl_el (v2 := .int (nI (wt_t r t t))) hcl hqh hah hqa
        refine nw_iconst X 0 d_Col_init_131 (by decide) ?_
        refine nw_istore_n X (lv' := [(3, _), (0, _), (2, _)]) d_Col_init_132 rfl hl (by decide) rfl (fun ls hl => ?_)
        have LP133 : ∀ (d i : Nat) (R : Nat → Nat → Nat) (w1 : rw_M) (H : Heap) (locs : List Loc) (ls : Array Slot), t - i < d → (i ≤ t) → (cl_s C h t q a1 r f gm gc R t (.int (nI (wt_t r t t))) w w1) → (cl_R t f R i 0) → (∀ a b, R a b ≤ 128) → rw_v D a0 w1 (h + 5 + t + 2 * t) s.heap H locs →  lv_has ls 5 [(0, .ref q), (3, .int (nI i))] →  W p l e (rw_r 1 26 1876) s m args below meth c H locs (12 + 2 * t) (84 + 256 * t) Q (F0 m 133 ls []) := by
          intro d
          induction d with
          | zero => intro i R w1 H locs ls hd; exact absurd hd (Nat.not_lt_zero _)
          | succ d IH133 =>
            intro i R w1 H locs ls hd hin hcl hR hRb V hl
            obtain ⟨c1, c2, c3, c4, c5, c6, c7, c8, c9, c10⟩ := id hcl
            refine nw_iload_n X d_Col_init_133 rfl (lv_at hl 1 rfl) ?_
            refine nw_aload_n X d_Col_init_134 rfl (lv_at hl 0 rfl) ?_
            refine rw_get Z V (ci := 0) (Cn := R_Col) (Tb := F_Col) (Nf := 8) (ref := R_Col) (by repeat (first | exact rw_at | exact rw_gat | assumption | refine rw_ne (by omega) ?_ | refine rw_gne (by omega) ?_)) rfl in_Col 0 (by decide) wi_79 rfl (by rfl) d_Col_init_135 ?_
            refine nw_icmp_ge X (tgt := 183) d_Col_init_138 (by decide) (by omega) (by omega) (fun hi => ?_) (fun hi => ?_)
            · skip
              refine W.widen (k := 26) (n := 1876) (by omega) (by omega) ?_
              exact hret _ _ _ _ _ _ d_Col_init_183 V ⟨f, gm, gc, R, rfl, hcl, hci, fun a b h1 h2 => hR a b h1 h2 (by omega), hRb⟩
            · skip
              refine nw_iload_n X d_Col_init_141 rfl (lv_at hl 1 rfl) ?_
              refine nw_iconst X 1 d_Col_init_142 (by decide) ?_
              refine nw_iadd X d_Col_init_143 ?_
              refine nw_istore X (lv' := [(4, _), (0, _), (3, _)]) d_Col_init_144 hl (by decide) rfl (fun ls hl => ?_)
              have LP146 : ∀ (d j : Nat) (R : Nat → Nat → Nat) (w1 : rw_M) (H : Heap) (locs : List Loc) (ls : Array Slot), t - j < d → (i < j) → (j ≤ t) → (cl_s C h t q a1 r f gm gc R t (.int (nI (wt_t r t t))) w w1) → (cl_R t f R i j) → (∀ a b, R a b ≤ 128) → rw_v D a0 w1 (h + 5 + t + 2 * t) s.heap H locs →  lv_has ls 5 [(0, .ref q), (3, .int (nI i)), (4, .int (nI j))] →  W p l e (rw_r 1 26 1876) s m args below meth c H locs (12 + 2 * t) (84 + 256 * t) Q (F0 m 146 ls []) := by
                intro d
                induction d with
                | zero => intro j R w1 H locs ls hd; exact absurd hd (Nat.not_lt_zero _)
                | succ d IH146 =>
                  intro j R w1 H locs ls hd hij hjn hcl hR hRb V hl
                  obtain ⟨c1, c2, c3, c4, c5, c6, c7, c8, c9, c10⟩ := id hcl
                  refine nw_iload X d_Col_init_146 (lv_at hl 2 rfl) ?_
                  refine nw_aload_n X d_Col_init_148 rfl (lv_at hl 0 rfl) ?_
                  refine rw_get Z V (ci := 0) (Cn := R_Col) (Tb := F_Col) (Nf := 8) (ref := R_Col) (by repeat (first | exact rw_at | exact rw_gat | assumption | refine rw_ne (by omega) ?_ | refine rw_gne (by omega) ?_)) rfl in_Col 0 (by decide) wi_79 rfl (by rfl) d_Col_init_149 ?_
                  refine nw_icmp_ge X (tgt := 177) d_Col_init_152 (by decide) (by omega) (by omega) (fun hj => ?_) (fun hj => ?_)
                  · skip
                    refine nw_iinc X (lv' := [(3, _), (0, _), (4, _)]) (k := 1) 1 d_Col_init_177 hl rfl (by decide) (by decide) rfl (fun ls hl => ?_)
                    refine nw_goto X (tgt := 133) d_Col_init_180 (by decide) ?_
                    exact IH133 (i + 1) R _ _ _ _ (by omega) hi hcl (fun a b h1 h2 h3 => hR a b h1 h2 (by omega)) hRb (rw_sz V (by omega)) (lv_sub hl [1, 0] rfl)
                  · skip
                    refine nw_aload_n X d_Col_init_155 rfl (lv_at hl 0 rfl) ?_
                    refine rw_get Z V (ci := 0) (Cn := R_Col) (Tb := F_Col) (Nf := 8) (ref := R_Col) (by repeat (first | exact rw_at | exact rw_gat | assumption | refine rw_ne (by omega) ?_ | refine rw_gne (by omega) ?_)) rfl in_Col 5 (by decide) wi_84 rfl (by rfl) d_Col_init_156 ?_
                    refine nw_iload_n X d_Col_init_159 rfl (lv_at hl 1 rfl) ?_
                    refine rw_aald Z V 2 (by repeat (first | exact rw_at | exact rw_gat | assumption | refine rw_ne (by omega) ?_ | refine rw_gne (by omega) ?_)) rfl rfl (by omega) (by omega) (if_pos hi) d_Col_init_160 ?_
                    refine nw_iload X d_Col_init_161 (lv_at hl 2 rfl) ?_
                    refine nw_aload_n X d_Col_init_163 rfl (lv_at hl 0 rfl) ?_
                    refine rw_get Z V (ci := 0) (Cn := R_Col) (Tb := F_Col) (Nf := 8) (ref := R_Col) (by repeat (first | exact rw_at | exact rw_gat | assumption | refine rw_ne (by omega) ?_ | refine rw_gne (by omega) ?_)) rfl in_Col 3 (by decide) wi_82 rfl (by rfl) d_Col_init_164 ?_
                    refine nw_iload X d_Col_init_167 (lv_at hl 2 rfl) ?_
                    refine rw_iald Z V (by repeat (first | exact rw_at | exact rw_gat | assumption | refine rw_ne (by omega) ?_ | refine rw_gne (by omega) ?_)) hj (by omega) d_Col_init_169 ?_
                    refine rw_iast Z V (c6 i hi) hj (by omega) d_Col_init_170 (fun H locs V => ?_)
                    refine nw_iinc X (lv' := [(4, _), (0, _), (3, _)]) (k := 2) 1 d_Col_init_171 hl rfl (by decide) (by decide) rfl (fun ls hl => ?_)
                    refine nw_goto X (tgt := 146) d_Col_init_174 (by decide) ?_
                    exact IH146 (j + 1) (fun k => if k = i then va_up (R i) j (f j) else R k) _ _ _ _ (by omega) (by omega) hj (cl_row hcl hqh hah hi) (cl_R1 hR hj) (fun a b => by
                      show (if a = i then va_up (R i) j (f j) else R a) b ≤ 128
                      by_cases e9 : a = i
                      · rw [if_pos e9]
                        unfold va_up
                        split
                        · rw [(hci j hj (by omega)).1]; exact hb _ (by omega)
                        · exact hRb _ _
                      · rw [if_neg e9]; exact hRb _ _) (rw_sz V (by omega)) (lv_sub hl [1, 2, 0] rfl)
              exact LP146 (t + 1) (i + 1) R _ _ _ _ (by omega) (by omega) (by omega) hcl (fun a b h1 h2 h3 => hR a b h1 h2 (by omega)) hRb (rw_sz V (by omega)) (lv_sub hl [1, 2, 0] rfl)
        exact LP133 (t + 1) 0 (fun _ _ => 0) _ _ _ _ (by omega) (by omega) hcl (fun a b h1 h2 h3 => by omega) (fun _ _ => Nat.zero_le _) (rw_sz V (by omega)) (lv_sub hl [1, 0] rfl)
      · skip
        subst hki
        rw [nI_pred] at hl
        have hb1 := hb (t + 1) (by omega)
        refine nw_aload_n X d_Col_init_86 rfl (lv_at hl 0 rfl) ?_
        refine rw_get Z V (ci := 0) (Cn := R_Col) (Tb := F_Col) (Nf := 8) (ref := R_Col) (by repeat (first | exact rw_at | exact rw_gat | assumption | refine rw_ne (by omega) ?_ | refine rw_gne (by omega) ?_)) rfl in_Col 3 (by decide) wi_82 rfl (by rfl) d_Col_init_87 ?_
        refine nw_iload_n X d_Col_init_90 rfl (lv_at hl 2 rfl) ?_
        refine nw_iload_n X d_Col_init_91 rfl (lv_at hl 1 rfl) ?_
        refine rw_iast Z V (by repeat (first | exact rw_at | exact rw_gat | assumption | refine rw_ne (by omega) ?_ | refine rw_gne (by omega) ?_)) (by omega) (by omega) d_Col_init_92 (fun H locs V => ?_)
        refine nw_iload_n X d_Col_init_93 rfl (lv_at hl 1 rfl) ?_
        refine nw_aload_n X d_Col_init_94 rfl (lv_at hl 0 rfl) ?_
        refine rw_get Z V (ci := 0) (Cn := R_Col) (Tb := F_Col) (Nf := 8) (ref := R_Col) (by repeat (first | exact rw_at | exact rw_gat | assumption | refine rw_ne (by omega) ?_ | refine rw_gne (by omega) ?_)) rfl in_Col 2 (by decide) wi_81 rfl (by rfl) d_Col_init_95 ?_
        refine nw_iload_n X d_Col_init_98 rfl (lv_at hl 2 rfl) ?_
        refine rw_iald Z V (by repeat (first | exact rw_at | exact rw_gat | assumption | refine rw_ne (by omega) ?_ | refine rw_gne (by omega) ?_)) (by omega) (by omega) d_Col_init_99 ?_
        refine nw_imul X d_Col_init_100 ?_
        rw [show wt_t r n t * r i = wt_t r n (t + 1) from by
          show _ = wt_t r n t * r (n - 1 - t)
          rw [show n - 1 - t = i by omega]]
        refine nw_istore_n X (lv' := [(2, _), (0, _), (3, _)]) d_Col_init_101 rfl hl (by decide) rfl (fun ls hl => ?_)
        refine nw_aload_n X d_Col_init_102 rfl (lv_at hl 1 rfl) ?_
        refine rw_get Z V (ci := 0) (Cn := R_Col) (Tb := F_Col) (Nf := 8) (ref := R_Col) (by repeat (first | exact rw_at | exact rw_gat | assumption | refine rw_ne (by omega) ?_ | refine rw_gne (by omega) ?_)) rfl in_Col 6 (by decide) wi_85 rfl (by rfl) d_Col_init_103 ?_
        refine nw_iload_n X d_Col_init_106 rfl (lv_at hl 2 rfl) ?_
        refine nw_iload_n X d_Col_init_107 rfl (lv_at hl 0 rfl) ?_
        refine rw_newi Z V (by omega) (show _ ≤ 26 by omega) (show _ ≤ 1876 by omega) d_Col_init_108 (fun H V => ?_)
        refine rw_aastA Z V (by repeat (first | exact rw_at | exact rw_gat | assumption | refine rw_ne (by omega) ?_ | refine rw_gne (by omega) ?_)) (by repeat (first | exact rw_at | exact rw_gat | assumption | refine rw_ne (by omega) ?_ | refine rw_gne (by omega) ?_)) (by omega) (by omega) d_Col_init_110 (fun H locs V => ?_)
        refine nw_aload_n X d_Col_init_111 rfl (lv_at hl 1 rfl) ?_
        refine rw_get Z V (ci := 0) (Cn := R_Col) (Tb := F_Col) (Nf := 8) (ref := R_Col) (by repeat (first | exact rw_at | exact rw_gat | assumption | refine rw_ne (by omega) ?_ | refine rw_gne (by omega) ?_)) rfl in_Col 7 (by decide) wi_86 rfl (by rfl) d_Col_init_112 ?_
        refine nw_iload_n X d_Col_init_115 rfl (lv_at hl 2 rfl) ?_
        refine nw_iload_n X d_Col_init_116 rfl (lv_at hl 0 rfl) ?_
        refine rw_newi Z V (by omega) (show _ ≤ 26 by omega) (show _ ≤ 1876 by omega) d_Col_init_117 (fun H V => ?_)
        refine rw_aastA Z V (by repeat (first | exact rw_at | exact rw_gat | assumption | refine rw_ne (by omega) ?_ | refine rw_gne (by omega) ?_)) (by repeat (first | exact rw_at | exact rw_gat | assumption | refine rw_ne (by omega) ?_ | refine rw_gne (by omega) ?_)) (by omega) (by omega) d_Col_init_119 (fun H locs V => ?_)
        refine nw_idec X (lv' := [(3, _), (2, _), (0, _)]) (k := 2) d_Col_init_120 hl rfl (by decide) rfl (fun ls hl => ?_)
        refine nw_goto X (tgt := 82) d_Col_init_123 (by decide) ?_
        refine W.widen (k := 12 + 2 * (t + 1)) (n := 84 + 256 * (t + 1)) (by omega) (by omega) ?_
        exact IH82 (t + 1) i (va_up f i (wt_t r n t)) (va_up gm i (some (h + 5 + n + 2 * t))) (va_up gc i (some (h + 5 + n + 2 * t + 1))) _ _ _ _ (by omega) (by omega) (cl_step hcl hqh hah hqa (by omega) (by omega)) (cl_stepi hci (by omega) (by omega)) (rw_sz V (by omega)) (lv_sub hl [2, 1, 0] rfl)
  refine W.widen (k := 12 + 2 * 0) (n := 84 + 256 * 0) (by omega) (by omega) ?_
  exact LP82 (n + 1) 0 n (fun _ => 0) (fun _ => none) (fun _ => none) _ _ _ _ (by omega) (by omega) ⟨by repeat (first | exact rw_at | exact rw_gat | assumption | refine rw_ne (by omega) ?_ | refine rw_gne (by omega) ?_), by repeat (first | exact rw_at | exact rw_gat | assumption | refine rw_ne (by omega) ?_ | refine rw_gne (by omega) ?_), by repeat (first | exact rw_at | exact rw_gat | assumption | refine rw_ne (by omega) ?_ | refine rw_gne (by omega) ?_), by repeat (first | exact rw_at | exact rw_gat | assumption | refine rw_ne (by omega) ?_ | refine rw_gne (by omega) ?_), by repeat (first | exact rw_at | exact rw_gat | assumption | refine rw_ne (by omega) ?_ | refine rw_gne (by omega) ?_), fun i hi => by repeat (first | exact rw_grow (by omega) (by omega) | refine rw_ne (by omega) ?_), by repeat (first | exact rw_at | exact rw_gat | assumption | refine rw_ne (by omega) ?_ | refine rw_gne (by omega) ?_), by repeat (first | exact rw_at | exact rw_gat | assumption | refine rw_ne (by omega) ?_ | refine rw_gne (by omega) ?_), fun t' ht' => absurd ht' (Nat.not_lt_zero _), fun a h1 h2 => by repeat (first | rfl | refine rw_ne (by omega) ?_ | refine rw_gne (by omega) ?_)⟩ (fun i h1 h2 => by omega) (rw_sz V (by omega)) (lv_sub hl [2, 1, 0] rfl)
