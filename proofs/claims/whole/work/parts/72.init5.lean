/-! The reference's constructor. By program (wip/whole/gen/init5.py). -/
set_option maxHeartbeats 4000000 in
set_option maxRecDepth 20000 in
theorem rm_Mod_init (l : Launch) (D : va_G) (C : Nat → ClassId) (a0 : Nat) (w : rw_M) (h : Nat) (q : Nat) (x : Int32) (hq : w q = some (.inr (4, [.int 0, .int 0, .null, .null, .null, .null, .int 0, .null, .null, .null, .null, .null, .null, .null]))) : Met l y_Mod_init (hw_c y_Mod_init b_Mod_init 9 none) (rw_r 1 11 17606) (va_Pc [.ref q, .int x] (rw_b D C a0 (w, h))) (va_Qv (fun u9 => ∃ n fw ft, dg_g x n ∧ u9.2 = h + 11 ∧ mi_s C h q (dg_f x n) fw ft (.int (nI n)) (.int (nI (dg_q x n))) w u9.1 ∧ mi_W n (dg_f x n) fw n ∧ (∀ a b, a < b → b < n → ft (7 * a + b) = fw b) ∧ ∀ a, ft a ≤ 128) (rw_b D C a0) (rw_A a0)) 11 17606 (rw_A a0) := by
  refine rw_metv (post := (fun u9 => ∃ n fw ft, dg_g x n ∧ u9.2 = h + 11 ∧ mi_s C h q (dg_f x n) fw ft (.int (nI n)) (.int (nI (dg_q x n))) w u9.1 ∧ mi_W n (dg_f x n) fw n ∧ (∀ a b, a < b → b < n → ft (7 * a + b) = fw b) ∧ ∀ a, ft a ≤ 128)) (by decide) (Nat.le_of_ble_eq_true rfl) ?_
  intro p e s m args below meth c ls Q Z hnm hret V hl
  have V : rw_v D a0 w h s.heap s.heap [] := V
  have X := Z.1
  have hl : lv_has ls 9 [(0, .ref q), (1, .int x)] := hl
  have hqh := rw_lt V hq
  refine nw_aload_n X d_Mod_init_0 rfl (lv_at hl 0 rfl) ?_
  refine rw_obj Z wi_456 hl.1 (by decide) (Nat.le_of_ble_eq_true rfl) d_Mod_init_1 ?_
  refine nw_aload_n X d_Mod_init_4 rfl (lv_at hl 0 rfl) ?_
  refine nw_bipush X 7 d_Mod_init_5 (by decide) ?_
  refine rw_newi Z V (by decide) (show _ ≤ 11 by omega) (show _ ≤ 17606 by omega) d_Mod_init_7 (fun H V => ?_)
  refine rw_putF Z V hnm (ci := 4) (Cn := R_Mod) (Tb := F_Mod) (Nf := 14) (ref := R_Mod) (ty := (.array .int)) (by repeat (first | exact rw_at | assumption | refine rw_ne (by omega) ?_)) rfl in_Mod t_Mod t_Mod_ok n_Mod 2 (by decide) wi_459 rfl rfl rfl (by decide +kernel) (by rfl) (by rfl) (by exact Nat.le_of_ble_eq_true rfl) d_Mod_init_9 (fun H locs V => ?_)
  refine nw_aload_n X d_Mod_init_12 rfl (lv_at hl 0 rfl) ?_
  refine nw_bipush X 7 d_Mod_init_13 (by decide) ?_
  refine rw_newi Z V (by decide) (show _ ≤ 11 by omega) (show _ ≤ 17606 by omega) d_Mod_init_15 (fun H V => ?_)
  refine rw_putF Z V hnm (ci := 4) (Cn := R_Mod) (Tb := F_Mod) (Nf := 14) (ref := R_Mod) (ty := (.array .int)) (by repeat (first | exact rw_at | assumption | refine rw_ne (by omega) ?_)) rfl in_Mod t_Mod t_Mod_ok n_Mod 3 (by decide) wi_460 rfl rfl rfl (by decide +kernel) (by rfl) (by rfl) (by exact Nat.le_of_ble_eq_true rfl) d_Mod_init_17 (fun H locs V => ?_)
  refine nw_aload_n X d_Mod_init_20 rfl (lv_at hl 0 rfl) ?_
  refine nw_bipush X 7 d_Mod_init_21 (by decide) ?_
  refine rw_newi Z V (by decide) (show _ ≤ 11 by omega) (show _ ≤ 17606 by omega) d_Mod_init_23 (fun H V => ?_)
  refine rw_putF Z V hnm (ci := 4) (Cn := R_Mod) (Tb := F_Mod) (Nf := 14) (ref := R_Mod) (ty := (.array .int)) (by repeat (first | exact rw_at | assumption | refine rw_ne (by omega) ?_)) rfl in_Mod t_Mod t_Mod_ok n_Mod 4 (by decide) wi_461 rfl rfl rfl (by decide +kernel) (by rfl) (by rfl) (by exact Nat.le_of_ble_eq_true rfl) d_Mod_init_25 (fun H locs V => ?_)
  refine nw_aload_n X d_Mod_init_28 rfl (lv_at hl 0 rfl) ?_
  refine nw_bipush X 49 d_Mod_init_29 (by decide) ?_
  refine rw_newi Z V (by decide) (show _ ≤ 11 by omega) (show _ ≤ 17606 by omega) d_Mod_init_31 (fun H V => ?_)
  refine rw_putF Z V hnm (ci := 4) (Cn := R_Mod) (Tb := F_Mod) (Nf := 14) (ref := R_Mod) (ty := (.array .int)) (by repeat (first | exact rw_at | assumption | refine rw_ne (by omega) ?_)) rfl in_Mod t_Mod t_Mod_ok n_Mod 5 (by decide) wi_462 rfl rfl rfl (by decide +kernel) (by rfl) (by rfl) (by exact Nat.le_of_ble_eq_true rfl) d_Mod_init_33 (fun H locs V => ?_)
  refine nw_aload_n X d_Mod_init_36 rfl (lv_at hl 0 rfl) ?_
  refine nw_sipush X 16384 d_Mod_init_37 (by decide) ?_
  refine rw_newi Z V (by decide) (show _ ≤ 11 by omega) (show _ ≤ 17606 by omega) d_Mod_init_40 (fun H V => ?_)
  refine rw_putF Z V hnm (ci := 4) (Cn := R_Mod) (Tb := F_Mod) (Nf := 14) (ref := R_Mod) (ty := (.array .int)) (by repeat (first | exact rw_at | assumption | refine rw_ne (by omega) ?_)) rfl in_Mod t_Mod t_Mod_ok n_Mod 7 (by decide) wi_464 rfl rfl rfl (by decide +kernel) (by rfl) (by rfl) (by exact Nat.le_of_ble_eq_true rfl) d_Mod_init_42 (fun H locs V => ?_)
  refine nw_aload_n X d_Mod_init_45 rfl (lv_at hl 0 rfl) ?_
  refine nw_sipush X 128 d_Mod_init_46 (by decide) ?_
  refine rw_newi Z V (by decide) (show _ ≤ 11 by omega) (show _ ≤ 17606 by omega) d_Mod_init_49 (fun H V => ?_)
  refine rw_putF Z V hnm (ci := 4) (Cn := R_Mod) (Tb := F_Mod) (Nf := 14) (ref := R_Mod) (ty := (.array .int)) (by repeat (first | exact rw_at | assumption | refine rw_ne (by omega) ?_)) rfl in_Mod t_Mod t_Mod_ok n_Mod 8 (by decide) wi_465 rfl rfl rfl (by decide +kernel) (by rfl) (by rfl) (by exact Nat.le_of_ble_eq_true rfl) d_Mod_init_51 (fun H locs V => ?_)
  refine nw_aload_n X d_Mod_init_54 rfl (lv_at hl 0 rfl) ?_
  refine nw_sipush X 128 d_Mod_init_55 (by decide) ?_
  refine rw_newi Z V (by decide) (show _ ≤ 11 by omega) (show _ ≤ 17606 by omega) d_Mod_init_58 (fun H V => ?_)
  refine rw_putF Z V hnm (ci := 4) (Cn := R_Mod) (Tb := F_Mod) (Nf := 14) (ref := R_Mod) (ty := (.array .int)) (by repeat (first | exact rw_at | assumption | refine rw_ne (by omega) ?_)) rfl in_Mod t_Mod t_Mod_ok n_Mod 9 (by decide) wi_466 rfl rfl rfl (by decide +kernel) (by rfl) (by rfl) (by exact Nat.le_of_ble_eq_true rfl) d_Mod_init_60 (fun H locs V => ?_)
  refine nw_aload_n X d_Mod_init_63 rfl (lv_at hl 0 rfl) ?_
  refine nw_sipush X 128 d_Mod_init_64 (by decide) ?_
  refine rw_newi Z V (by decide) (show _ ≤ 11 by omega) (show _ ≤ 17606 by omega) d_Mod_init_67 (fun H V => ?_)
  refine rw_putF Z V hnm (ci := 4) (Cn := R_Mod) (Tb := F_Mod) (Nf := 14) (ref := R_Mod) (ty := (.array .int)) (by repeat (first | exact rw_at | assumption | refine rw_ne (by omega) ?_)) rfl in_Mod t_Mod t_Mod_ok n_Mod 10 (by decide) wi_467 rfl rfl rfl (by decide +kernel) (by rfl) (by rfl) (by exact Nat.le_of_ble_eq_true rfl) d_Mod_init_69 (fun H locs V => ?_)
  refine nw_aload_n X d_Mod_init_72 rfl (lv_at hl 0 rfl) ?_
  refine nw_sipush X 512 d_Mod_init_73 (by decide) ?_
  refine rw_newz Z V (by decide) (show _ ≤ 11 by omega) (show _ ≤ 17606 by omega) d_Mod_init_76 (fun H V => ?_)
  refine rw_putF Z V hnm (ci := 4) (Cn := R_Mod) (Tb := F_Mod) (Nf := 14) (ref := R_Mod) (ty := (.array .boolean)) (by repeat (first | exact rw_at | assumption | refine rw_ne (by omega) ?_)) rfl in_Mod t_Mod t_Mod_ok n_Mod 11 (by decide) wi_468 rfl rfl rfl (by decide +kernel) (by rfl) (by rfl) (by exact Nat.le_of_ble_eq_true rfl) d_Mod_init_78 (fun H locs V => ?_)
  refine nw_aload_n X d_Mod_init_81 rfl (lv_at hl 0 rfl) ?_
  refine nw_sipush X 128 d_Mod_init_82 (by decide) ?_
  refine rw_newz Z V (by decide) (show _ ≤ 11 by omega) (show _ ≤ 17606 by omega) d_Mod_init_85 (fun H V => ?_)
  refine rw_putF Z V hnm (ci := 4) (Cn := R_Mod) (Tb := F_Mod) (Nf := 14) (ref := R_Mod) (ty := (.array .boolean)) (by repeat (first | exact rw_at | assumption | refine rw_ne (by omega) ?_)) rfl in_Mod t_Mod t_Mod_ok n_Mod 12 (by decide) wi_469 rfl rfl rfl (by decide +kernel) (by rfl) (by rfl) (by exact Nat.le_of_ble_eq_true rfl) d_Mod_init_87 (fun H locs V => ?_)
  refine nw_aload_n X d_Mod_init_90 rfl (lv_at hl 0 rfl) ?_
  refine nw_sipush X 128 d_Mod_init_91 (by decide) ?_
  refine rw_newz Z V (by decide) (show _ ≤ 11 by omega) (show _ ≤ 17606 by omega) d_Mod_init_94 (fun H V => ?_)
  refine rw_putF Z V hnm (ci := 4) (Cn := R_Mod) (Tb := F_Mod) (Nf := 14) (ref := R_Mod) (ty := (.array .boolean)) (by repeat (first | exact rw_at | assumption | refine rw_ne (by omega) ?_)) rfl in_Mod t_Mod t_Mod_ok n_Mod 13 (by decide) wi_470 rfl rfl rfl (by decide +kernel) (by rfl) (by rfl) (by exact Nat.le_of_ble_eq_true rfl) d_Mod_init_96 (fun H locs V => ?_)
  refine nw_iconst X 0 d_Mod_init_99 (by decide) ?_
  refine nw_istore_n X (lv' := [(2, _), (0, _), (1, _)]) d_Mod_init_100 rfl hl (by decide) rfl (fun ls hl => ?_)
  refine nw_iconst X 1 d_Mod_init_101 (by decide) ?_
  refine nw_istore_n X (lv' := [(3, _), (2, _), (0, _), (1, _)]) d_Mod_init_102 rfl hl (by decide) rfl (fun ls hl => ?_)
  refine nw_iload_n X d_Mod_init_103 rfl (lv_at hl 3 rfl) ?_
  refine nw_istore X (lv' := [(4, _), (3, _), (2, _), (0, _), (1, _)]) d_Mod_init_104 hl (by decide) rfl (fun ls hl => ?_)
  refine nw_iconst X 1 d_Mod_init_106 (by decide) ?_
  refine nw_istore X (lv' := [(5, _), (4, _), (3, _), (2, _), (0, _), (1, _)]) d_Mod_init_107 hl (by decide) rfl (fun ls hl => ?_)
  have LP109 : ∀ (d k b : Nat) (y : Int32) (w1 : rw_M) (H : Heap) (locs : List Loc) (ls : Array Slot), 7 - k + b < d → (k ≤ 7) → (b < 2) → (b = 1 → y.toInt = dg_s x k) → (b = 0 → ¬ dg_t x k) → (∀ j, j < k → dg_t x j) → (mi_s C h q (dg_f x k) (fun _ => 0) (fun _ => 0) (.int 0) (.int 0) w w1) → rw_v D a0 w1 (h + 11) s.heap H locs →  lv_has ls 9 [(0, .ref q), (2, .int (nI k)), (3, .int (nI (dg_q x k))), (4, .int y), (5, .int (nI b))] →  W p l e (rw_r 1 11 17606) s m args below meth c H locs 11 17606 Q (F0 m 109 ls []) := by
    intro d
    induction d with
    | zero => intro k b y w1 H locs ls hd; exact absurd hd (Nat.not_lt_zero _)
    | succ d IH109 =>
      intro k b y w1 H locs ls hd hk7 hb2 hy hst ht hmi V hl
      have hq1 : dg_q x k ≤ 128 := by
        cases k with
        | zero => show 1 ≤ 128; omega
        | succ j => exact (ht j (by omega)).2
      have hd16 := dg_r16 x k
      have hqr : dg_q x k * dg_r x k ≤ 128 * 16 := Nat.mul_le_mul hq1 (by omega)
      refine nw_iload_n X d_Mod_init_109 rfl (lv_at hl 1 rfl) ?_
      refine nw_bipush X 7 d_Mod_init_110 (by decide) ?_
      refine nw_icmp_ge X (tgt := 225) d_Mod_init_112 (by decide) (by omega) (by decide) (fun hc => ?_) (fun hk => ?_)
      · skip
        have hg9 : dg_g x k := ⟨hk7, ht, Or.inl (by omega)⟩
        refine nw_aload_n X d_Mod_init_225 rfl (lv_at hl 0 rfl) ?_
        refine nw_iload_n X d_Mod_init_226 rfl (lv_at hl 1 rfl) ?_
        refine rw_putF Z V hnm (ci := 4) (Cn := R_Mod) (Tb := F_Mod) (Nf := 14) (ref := R_Mod) (ty := .int) hmi.1 rfl in_Mod t_Mod t_Mod_ok n_Mod 0 (by decide) wi_457 rfl rfl rfl (by decide +kernel) (vp_nar_int _) (by rfl) (by exact Nat.le_of_ble_eq_true rfl) d_Mod_init_227 (fun H locs V => ?_)
        have hmi := mi_q (u0 := .int (nI k)) (u1 := .int 0) hmi hqh
        refine nw_aload_n X d_Mod_init_230 rfl (lv_at hl 0 rfl) ?_
        refine nw_iload_n X d_Mod_init_231 rfl (lv_at hl 2 rfl) ?_
        refine rw_putF Z V hnm (ci := 4) (Cn := R_Mod) (Tb := F_Mod) (Nf := 14) (ref := R_Mod) (ty := .int) hmi.1 rfl in_Mod t_Mod t_Mod_ok n_Mod 1 (by decide) wi_458 rfl rfl rfl (by decide +kernel) (vp_nar_int _) (by rfl) (by exact Nat.le_of_ble_eq_true rfl) d_Mod_init_232 (fun H locs V => ?_)
        have hmi := mi_q (u0 := .int (nI k)) (u1 := .int (nI (dg_q x k))) hmi hqh
        have hb := fun t ht => wt_le (t := t) hg9 dg_fr ht
        refine nw_iconst X 1 d_Mod_init_235 (by decide) ?_
        refine nw_istore X (lv' := [(6, _), (0, _), (2, _), (3, _), (4, _), (5, _)]) d_Mod_init_236 hl (by decide) rfl (fun ls hl => ?_)
        refine nw_iload_n X d_Mod_init_238 rfl (lv_at hl 2 rfl) ?_
        refine nw_iconst X 1 d_Mod_init_239 (by decide) ?_
        refine nw_isub1 X d_Mod_init_240 ?_
        refine nw_istore X (lv' := [(7, _), (6, _), (0, _), (2, _), (3, _), (4, _), (5, _)]) d_Mod_init_241 hl (by decide) rfl (fun ls hl => ?_)
        have LP243 : ∀ (d t k2 : Nat) (fw : Nat → Nat) (w1 : rw_M) (H : Heap) (locs : List Loc) (ls : Array Slot), k2 < d → (t + k2 = k) → (mi_s C h q (dg_f x k) fw (fun _ => 0) (.int (nI k)) (.int (nI (dg_q x k))) w w1) → (mi_W k (dg_f x k) fw t) → rw_v D a0 w1 (h + 11) s.heap H locs →  lv_has ls 9 [(0, .ref q), (2, .int (nI k)), (6, .int (nI (wt_t (dg_f x k) k t))), (7, .int (nI k2 - 1))] →  W p l e (rw_r 1 11 17606) s m args below meth c H locs 11 17606 Q (F0 m 243 ls []) := by
          intro d
          induction d with
          | zero => intro t k2 fw w1 H locs ls hd; exact absurd hd (Nat.not_lt_zero _)
          | succ d IH243 =>
            intro t k2 fw w1 H locs ls hd htk hmi hW V hl
            refine nw_iload X d_Mod_init_243 (lv_at hl 3 rfl) ?_
            refine nw_if_ltp X (tgt := 275) d_Mod_init_245 (by decide) (by omega) (fun hk0 => ?_) (fun i hki => ?_)
            · skip
              subst hk0
              have hW9 : mi_W k (dg_f x k) fw k := by rw [show t = k by omega] at hW; exact hW
              refine nw_iconst X 0 d_Mod_init_275 (by decide) ?_
              refine nw_istore X (lv' := [(7, _), (0, _), (2, _), (6, _)]) d_Mod_init_276 hl (by decide) rfl (fun ls hl => ?_)
              have LP278 : ∀ (d i : Nat) (ft : Nat → Nat) (w1 : rw_M) (H : Heap) (locs : List Loc) (ls : Array Slot), k - i < d → (i ≤ k) → (mi_s C h q (dg_f x k) fw ft (.int (nI k)) (.int (nI (dg_q x k))) w w1) → (mi_T k fw ft i 0) → rw_v D a0 w1 (h + 11) s.heap H locs →  lv_has ls 9 [(0, .ref q), (2, .int (nI k)), (7, .int (nI i))] →  W p l e (rw_r 1 11 17606) s m args below meth c H locs 11 17606 Q (F0 m 278 ls []) := by
                intro d
                induction d with
                | zero => intro i ft w1 H locs ls hd; exact absurd hd (Nat.not_lt_zero _)
                | succ d IH278 =>
                  intro i ft w1 H locs ls hd hik hmi hT V hl
                  refine nw_iload X d_Mod_init_278 (lv_at hl 2 rfl) ?_
                  refine nw_iload_n X d_Mod_init_280 rfl (lv_at hl 1 rfl) ?_
                  refine nw_icmp_ge X (tgt := 328) d_Mod_init_281 (by decide) (by omega) (by omega) (fun hi => ?_) (fun hi => ?_)
                  · skip
                    refine W.widen (k := 11) (n := 17606) (by omega) (by omega) ?_
                    exact hret _ _ _ _ _ _ d_Mod_init_328 V ⟨k, fw, ft, hg9, rfl, hmi, hW9, fun a b h1 h2 => hT.1 a b h1 h2 (by omega), hT.2⟩
                  · skip
                    refine nw_iload X d_Mod_init_284 (lv_at hl 2 rfl) ?_
                    refine nw_iconst X 1 d_Mod_init_286 (by decide) ?_
                    refine nw_iadd X d_Mod_init_287 ?_
                    refine nw_istore X (lv' := [(8, _), (0, _), (2, _), (7, _)]) d_Mod_init_288 hl (by decide) rfl (fun ls hl => ?_)
                    have LP290 : ∀ (d j : Nat) (ft : Nat → Nat) (w1 : rw_M) (H : Heap) (locs : List Loc) (ls : Array Slot), k - j < d → (i < j) → (j ≤ k) → (mi_s C h q (dg_f x k) fw ft (.int (nI k)) (.int (nI (dg_q x k))) w w1) → (mi_T k fw ft i j) → rw_v D a0 w1 (h + 11) s.heap H locs →  lv_has ls 9 [(0, .ref q), (2, .int (nI k)), (7, .int (nI i)), (8, .int (nI j))] →  W p l e (rw_r 1 11 17606) s m args below meth c H locs 11 17606 Q (F0 m 290 ls []) := by
                      intro d
                      induction d with
                      | zero => intro j ft w1 H locs ls hd; exact absurd hd (Nat.not_lt_zero _)
                      | succ d IH290 =>
                        intro j ft w1 H locs ls hd hij hjk hmi hT V hl
                        refine nw_iload X d_Mod_init_290 (lv_at hl 3 rfl) ?_
                        refine nw_iload_n X d_Mod_init_292 rfl (lv_at hl 1 rfl) ?_
                        refine nw_icmp_ge X (tgt := 322) d_Mod_init_293 (by decide) (by omega) (by omega) (fun hj => ?_) (fun hj => ?_)
                        · skip
                          refine nw_iinc X (lv' := [(7, _), (0, _), (2, _), (8, _)]) (k := 2) 1 d_Mod_init_322 hl rfl (by decide) (by decide) rfl (fun ls hl => ?_)
                          refine nw_goto X (tgt := 278) d_Mod_init_325 (by decide) ?_
                          exact IH278 (i + 1) ft _ _ _ _ (by omega) hi hmi ⟨fun a b h1 h2 h3 => hT.1 a b h1 h2 (by omega), hT.2⟩ (rw_sz V (by omega)) (lv_sub hl [1, 2, 0] rfl)
                        · skip
                          refine nw_aload_n X d_Mod_init_296 rfl (lv_at hl 0 rfl) ?_
                          refine rw_get Z V (ci := 4) (Cn := R_Mod) (Tb := F_Mod) (Nf := 14) (ref := R_Mod) hmi.1 rfl in_Mod 5 (by decide) wi_462 rfl (by rfl) d_Mod_init_297 ?_
                          refine nw_bipush X 7 d_Mod_init_300 (by decide) ?_
                          refine nw_iload X d_Mod_init_302 (lv_at hl 2 rfl) ?_
                          refine nw_imul X d_Mod_init_304 ?_
                          refine nw_iload X d_Mod_init_305 (lv_at hl 3 rfl) ?_
                          refine nw_iadd X d_Mod_init_307 ?_
                          refine nw_aload_n X d_Mod_init_308 rfl (lv_at hl 0 rfl) ?_
                          refine rw_get Z V (ci := 4) (Cn := R_Mod) (Tb := F_Mod) (Nf := 14) (ref := R_Mod) hmi.1 rfl in_Mod 3 (by decide) wi_460 rfl (by rfl) d_Mod_init_309 ?_
                          refine nw_iload X d_Mod_init_312 (lv_at hl 3 rfl) ?_
                          refine rw_iald Z V hmi.2.2.1 (by omega) (by decide) d_Mod_init_314 ?_
                          refine rw_iast Z V hmi.2.2.2.2.1 (by omega) (by decide) d_Mod_init_315 (fun H locs V => ?_)
                          refine nw_iinc X (lv' := [(8, _), (0, _), (2, _), (7, _)]) (k := 3) 1 d_Mod_init_316 hl rfl (by decide) (by decide) rfl (fun ls hl => ?_)
                          refine nw_goto X (tgt := 290) d_Mod_init_319 (by decide) ?_
                          exact IH290 (j + 1) (va_up ft (7 * i + j) (fw j)) _ _ _ _ (by omega) (by omega) hj (mi_t hmi hqh) (mi_T1 hT hk7 hij hj (hW9.2 j)) (rw_sz V (by omega)) (lv_sub hl [1, 2, 3, 0] rfl)
                    exact LP290 (k + 1) (i + 1) ft _ _ _ _ (by omega) (by omega) (by omega) hmi ⟨fun a b h1 h2 h3 => hT.1 a b h1 h2 (by omega), hT.2⟩ (rw_sz V (by omega)) (lv_sub hl [1, 2, 3, 0] rfl)
              exact LP278 (k + 1) 0 (fun _ => 0) _ _ _ _ (by omega) (by omega) hmi ⟨fun a b h1 h2 h3 => by omega, fun _ => Nat.zero_le _⟩ (rw_sz V (by omega)) (lv_sub hl [1, 2, 0] rfl)
            · skip
              subst hki
              rw [nI_pred] at hl
              refine nw_aload_n X d_Mod_init_248 rfl (lv_at hl 0 rfl) ?_
              refine rw_get Z V (ci := 4) (Cn := R_Mod) (Tb := F_Mod) (Nf := 14) (ref := R_Mod) hmi.1 rfl in_Mod 3 (by decide) wi_460 rfl (by rfl) d_Mod_init_249 ?_
              refine nw_iload X d_Mod_init_252 (lv_at hl 3 rfl) ?_
              refine nw_iload X d_Mod_init_254 (lv_at hl 2 rfl) ?_
              refine rw_iast Z V hmi.2.2.1 (by omega) (by decide) d_Mod_init_256 (fun H locs V => ?_)
              refine nw_iload X d_Mod_init_257 (lv_at hl 2 rfl) ?_
              refine nw_aload_n X d_Mod_init_259 rfl (lv_at hl 0 rfl) ?_
              refine rw_get Z V (ci := 4) (Cn := R_Mod) (Tb := F_Mod) (Nf := 14) (ref := R_Mod) (rw_ne (by omega) hmi.1) rfl in_Mod 2 (by decide) wi_459 rfl (by rfl) d_Mod_init_260 ?_
              refine nw_iload X d_Mod_init_263 (lv_at hl 3 rfl) ?_
              refine rw_iald Z V (rw_ne (by omega) hmi.2.1) (by omega) (by decide) d_Mod_init_265 ?_
              refine nw_imul X d_Mod_init_266 ?_
              rw [show wt_t (dg_f x k) k t * dg_f x k i = wt_t (dg_f x k) k (t + 1) from by
                show _ = wt_t (dg_f x k) k t * dg_f x k (k - 1 - t)
                rw [show k - 1 - t = i by omega]]
              refine nw_istore X (lv' := [(6, _), (0, _), (2, _), (7, _)]) d_Mod_init_267 hl (by decide) rfl (fun ls hl => ?_)
              refine nw_idec X (lv' := [(7, _), (6, _), (0, _), (2, _)]) (k := 3) d_Mod_init_269 hl rfl (by decide) rfl (fun ls hl => ?_)
              refine nw_goto X (tgt := 243) d_Mod_init_272 (by decide) ?_
              exact IH243 (t + 1) i (va_up fw i (wt_t (dg_f x k) k t)) _ _ _ _ (by omega) (by omega) (mi_w hmi hqh) (mi_W1 hW (by omega) (by omega) (hb t (by omega))) (rw_sz V (by omega)) (lv_sub hl [2, 3, 1, 0] rfl)
        exact LP243 (k + 1) 0 k (fun _ => 0) _ _ _ _ (by omega) (by omega) hmi ⟨fun i h1 h2 => by omega, fun _ => Nat.zero_le _⟩ (rw_sz V (by omega)) (lv_sub hl [2, 3, 1, 0] rfl)
      · skip
        refine nw_iload X d_Mod_init_115 (lv_at hl 4 rfl) ?_
        refine nw_if_eq X (tgt := 225) d_Mod_init_117 (by decide) (by omega) (fun hc => ?_) (fun hc => ?_)
        · skip
          have hg9 : dg_g x k := ⟨hk7, ht, Or.inr (hst hc)⟩
          refine nw_aload_n X d_Mod_init_225 rfl (lv_at hl 0 rfl) ?_
          refine nw_iload_n X d_Mod_init_226 rfl (lv_at hl 1 rfl) ?_
          refine rw_putF Z V hnm (ci := 4) (Cn := R_Mod) (Tb := F_Mod) (Nf := 14) (ref := R_Mod) (ty := .int) hmi.1 rfl in_Mod t_Mod t_Mod_ok n_Mod 0 (by decide) wi_457 rfl rfl rfl (by decide +kernel) (vp_nar_int _) (by rfl) (by exact Nat.le_of_ble_eq_true rfl) d_Mod_init_227 (fun H locs V => ?_)
          have hmi := mi_q (u0 := .int (nI k)) (u1 := .int 0) hmi hqh
          refine nw_aload_n X d_Mod_init_230 rfl (lv_at hl 0 rfl) ?_
          refine nw_iload_n X d_Mod_init_231 rfl (lv_at hl 2 rfl) ?_
          refine rw_putF Z V hnm (ci := 4) (Cn := R_Mod) (Tb := F_Mod) (Nf := 14) (ref := R_Mod) (ty := .int) hmi.1 rfl in_Mod t_Mod t_Mod_ok n_Mod 1 (by decide) wi_458 rfl rfl rfl (by decide +kernel) (vp_nar_int _) (by rfl) (by exact Nat.le_of_ble_eq_true rfl) d_Mod_init_232 (fun H locs V => ?_)
          have hmi := mi_q (u0 := .int (nI k)) (u1 := .int (nI (dg_q x k))) hmi hqh
          have hb := fun t ht => wt_le (t := t) hg9 dg_fr ht
          refine nw_iconst X 1 d_Mod_init_235 (by decide) ?_
          refine nw_istore X (lv' := [(6, _), (0, _), (2, _), (3, _), (4, _), (5, _)]) d_Mod_init_236 hl (by decide) rfl (fun ls hl => ?_)
          refine nw_iload_n X d_Mod_init_238 rfl (lv_at hl 2 rfl) ?_
          refine nw_iconst X 1 d_Mod_init_239 (by decide) ?_
          refine nw_isub1 X d_Mod_init_240 ?_
          refine nw_istore X (lv' := [(7, _), (6, _), (0, _), (2, _), (3, _), (4, _), (5, _)]) d_Mod_init_241 hl (by decide) rfl (fun ls hl => ?_)
          have LP243 : ∀ (d t k2 : Nat) (fw : Nat → Nat) (w1 : rw_M) (H : Heap) (locs : List Loc) (ls : Array Slot), k2 < d → (t + k2 = k) → (mi_s C h q (dg_f x k) fw (fun _ => 0) (.int (nI k)) (.int (nI (dg_q x k))) w w1) → (mi_W k (dg_f x k) fw t) → rw_v D a0 w1 (h + 11) s.heap H locs →  lv_has ls 9 [(0, .ref q), (2, .int (nI k)), (6, .int (nI (wt_t (dg_f x k) k t))), (7, .int (nI k2 - 1))] →  W p l e (rw_r 1 11 17606) s m args below meth c H locs 11 17606 Q (F0 m 243 ls []) := by
            intro d
            induction d with
            | zero => intro t k2 fw w1 H locs ls hd; exact absurd hd (Nat.not_lt_zero _)
            | succ d IH243 =>
              intro t k2 fw w1 H locs ls hd htk hmi hW V hl
              refine nw_iload X d_Mod_init_243 (lv_at hl 3 rfl) ?_
              refine nw_if_ltp X (tgt := 275) d_Mod_init_245 (by decide) (by omega) (fun hk0 => ?_) (fun i hki => ?_)
              · skip
                subst hk0
                have hW9 : mi_W k (dg_f x k) fw k := by rw [show t = k by omega] at hW; exact hW
                refine nw_iconst X 0 d_Mod_init_275 (by decide) ?_
                refine nw_istore X (lv' := [(7, _), (0, _), (2, _), (6, _)]) d_Mod_init_276 hl (by decide) rfl (fun ls hl => ?_)
                have LP278 : ∀ (d i : Nat) (ft : Nat → Nat) (w1 : rw_M) (H : Heap) (locs : List Loc) (ls : Array Slot), k - i < d → (i ≤ k) → (mi_s C h q (dg_f x k) fw ft (.int (nI k)) (.int (nI (dg_q x k))) w w1) → (mi_T k fw ft i 0) → rw_v D a0 w1 (h + 11) s.heap H locs →  lv_has ls 9 [(0, .ref q), (2, .int (nI k)), (7, .int (nI i))] →  W p l e (rw_r 1 11 17606) s m args below meth c H locs 11 17606 Q (F0 m 278 ls []) := by
                  intro d
                  induction d with
                  | zero => intro i ft w1 H locs ls hd; exact absurd hd (Nat.not_lt_zero _)
                  | succ d IH278 =>
                    intro i ft w1 H locs ls hd hik hmi hT V hl
                    refine nw_iload X d_Mod_init_278 (lv_at hl 2 rfl) ?_
                    refine nw_iload_n X d_Mod_init_280 rfl (lv_at hl 1 rfl) ?_
                    refine nw_icmp_ge X (tgt := 328) d_Mod_init_281 (by decide) (by omega) (by omega) (fun hi => ?_) (fun hi => ?_)
                    · skip
                      refine W.widen (k := 11) (n := 17606) (by omega) (by omega) ?_
                      exact hret _ _ _ _ _ _ d_Mod_init_328 V ⟨k, fw, ft, hg9, rfl, hmi, hW9, fun a b h1 h2 => hT.1 a b h1 h2 (by omega), hT.2⟩
                    · skip
                      refine nw_iload X d_Mod_init_284 (lv_at hl 2 rfl) ?_
                      refine nw_iconst X 1 d_Mod_init_286 (by decide) ?_
                      refine nw_iadd X d_Mod_init_287 ?_
                      refine nw_istore X (lv' := [(8, _), (0, _), (2, _), (7, _)]) d_Mod_init_288 hl (by decide) rfl (fun ls hl => ?_)
                      have LP290 : ∀ (d j : Nat) (ft : Nat → Nat) (w1 : rw_M) (H : Heap) (locs : List Loc) (ls : Array Slot), k - j < d → (i < j) → (j ≤ k) → (mi_s C h q (dg_f x k) fw ft (.int (nI k)) (.int (nI (dg_q x k))) w w1) → (mi_T k fw ft i j) → rw_v D a0 w1 (h + 11) s.heap H locs →  lv_has ls 9 [(0, .ref q), (2, .int (nI k)), (7, .int (nI i)), (8, .int (nI j))] →  W p l e (rw_r 1 11 17606) s m args below meth c H locs 11 17606 Q (F0 m 290 ls []) := by
                        intro d
                        induction d with
                        | zero => intro j ft w1 H locs ls hd; exact absurd hd (Nat.not_lt_zero _)
                        | succ d IH290 =>
                          intro j ft w1 H locs ls hd hij hjk hmi hT V hl
                          refine nw_iload X d_Mod_init_290 (lv_at hl 3 rfl) ?_
                          refine nw_iload_n X d_Mod_init_292 rfl (lv_at hl 1 rfl) ?_
                          refine nw_icmp_ge X (tgt := 322) d_Mod_init_293 (by decide) (by omega) (by omega) (fun hj => ?_) (fun hj => ?_)
                          · skip
                            refine nw_iinc X (lv' := [(7, _), (0, _), (2, _), (8, _)]) (k := 2) 1 d_Mod_init_322 hl rfl (by decide) (by decide) rfl (fun ls hl => ?_)
                            refine nw_goto X (tgt := 278) d_Mod_init_325 (by decide) ?_
                            exact IH278 (i + 1) ft _ _ _ _ (by omega) hi hmi ⟨fun a b h1 h2 h3 => hT.1 a b h1 h2 (by omega), hT.2⟩ (rw_sz V (by omega)) (lv_sub hl [1, 2, 0] rfl)
                          · skip
                            refine nw_aload_n X d_Mod_init_296 rfl (lv_at hl 0 rfl) ?_
                            refine rw_get Z V (ci := 4) (Cn := R_Mod) (Tb := F_Mod) (Nf := 14) (ref := R_Mod) hmi.1 rfl in_Mod 5 (by decide) wi_462 rfl (by rfl) d_Mod_init_297 ?_
                            refine nw_bipush X 7 d_Mod_init_300 (by decide) ?_
                            refine nw_iload X d_Mod_init_302 (lv_at hl 2 rfl) ?_
                            refine nw_imul X d_Mod_init_304 ?_
                            refine nw_iload X d_Mod_init_305 (lv_at hl 3 rfl) ?_
                            refine nw_iadd X d_Mod_init_307 ?_
                            refine nw_aload_n X d_Mod_init_308 rfl (lv_at hl 0 rfl) ?_
                            refine rw_get Z V (ci := 4) (Cn := R_Mod) (Tb := F_Mod) (Nf := 14) (ref := R_Mod) hmi.1 rfl in_Mod 3 (by decide) wi_460 rfl (by rfl) d_Mod_init_309 ?_
                            refine nw_iload X d_Mod_init_312 (lv_at hl 3 rfl) ?_
                            refine rw_iald Z V hmi.2.2.1 (by omega) (by decide) d_Mod_init_314 ?_
                            refine rw_iast Z V hmi.2.2.2.2.1 (by omega) (by decide) d_Mod_init_315 (fun H locs V => ?_)
                            refine nw_iinc X (lv' := [(8, _), (0, _), (2, _), (7, _)]) (k := 3) 1 d_Mod_init_316 hl rfl (by decide) (by decide) rfl (fun ls hl => ?_)
                            refine nw_goto X (tgt := 290) d_Mod_init_319 (by decide) ?_
                            exact IH290 (j + 1) (va_up ft (7 * i + j) (fw j)) _ _ _ _ (by omega) (by omega) hj (mi_t hmi hqh) (mi_T1 hT hk7 hij hj (hW9.2 j)) (rw_sz V (by omega)) (lv_sub hl [1, 2, 3, 0] rfl)
                      exact LP290 (k + 1) (i + 1) ft _ _ _ _ (by omega) (by omega) (by omega) hmi ⟨fun a b h1 h2 h3 => hT.1 a b h1 h2 (by omega), hT.2⟩ (rw_sz V (by omega)) (lv_sub hl [1, 2, 3, 0] rfl)
                exact LP278 (k + 1) 0 (fun _ => 0) _ _ _ _ (by omega) (by omega) hmi ⟨fun a b h1 h2 h3 => by omega, fun _ => Nat.zero_le _⟩ (rw_sz V (by omega)) (lv_sub hl [1, 2, 0] rfl)
              · skip
                subst hki
                rw [nI_pred] at hl
                refine nw_aload_n X d_Mod_init_248 rfl (lv_at hl 0 rfl) ?_
                refine rw_get Z V (ci := 4) (Cn := R_Mod) (Tb := F_Mod) (Nf := 14) (ref := R_Mod) hmi.1 rfl in_Mod 3 (by decide) wi_460 rfl (by rfl) d_Mod_init_249 ?_
                refine nw_iload X d_Mod_init_252 (lv_at hl 3 rfl) ?_
                refine nw_iload X d_Mod_init_254 (lv_at hl 2 rfl) ?_
                refine rw_iast Z V hmi.2.2.1 (by omega) (by decide) d_Mod_init_256 (fun H locs V => ?_)
                refine nw_iload X d_Mod_init_257 (lv_at hl 2 rfl) ?_
                refine nw_aload_n X d_Mod_init_259 rfl (lv_at hl 0 rfl) ?_
                refine rw_get Z V (ci := 4) (Cn := R_Mod) (Tb := F_Mod) (Nf := 14) (ref := R_Mod) (rw_ne (by omega) hmi.1) rfl in_Mod 2 (by decide) wi_459 rfl (by rfl) d_Mod_init_260 ?_
                refine nw_iload X d_Mod_init_263 (lv_at hl 3 rfl) ?_
                refine rw_iald Z V (rw_ne (by omega) hmi.2.1) (by omega) (by decide) d_Mod_init_265 ?_
                refine nw_imul X d_Mod_init_266 ?_
                rw [show wt_t (dg_f x k) k t * dg_f x k i = wt_t (dg_f x k) k (t + 1) from by
                  show _ = wt_t (dg_f x k) k t * dg_f x k (k - 1 - t)
                  rw [show k - 1 - t = i by omega]]
                refine nw_istore X (lv' := [(6, _), (0, _), (2, _), (7, _)]) d_Mod_init_267 hl (by decide) rfl (fun ls hl => ?_)
                refine nw_idec X (lv' := [(7, _), (6, _), (0, _), (2, _)]) (k := 3) d_Mod_init_269 hl rfl (by decide) rfl (fun ls hl => ?_)
                refine nw_goto X (tgt := 243) d_Mod_init_272 (by decide) ?_
                exact IH243 (t + 1) i (va_up fw i (wt_t (dg_f x k) k t)) _ _ _ _ (by omega) (by omega) (mi_w hmi hqh) (mi_W1 hW (by omega) (by omega) (hb t (by omega))) (rw_sz V (by omega)) (lv_sub hl [2, 3, 1, 0] rfl)
          exact LP243 (k + 1) 0 k (fun _ => 0) _ _ _ _ (by omega) (by omega) hmi ⟨fun i h1 h2 => by omega, fun _ => Nat.zero_le _⟩ (rw_sz V (by omega)) (lv_sub hl [2, 3, 1, 0] rfl)
        · skip
          have hb1 : b = 1 := by omega
          subst hb1
          have hy1 := hy rfl
          refine nw_iload X d_Mod_init_120 (lv_at hl 3 rfl) ?_
          refine nw_bipush X 15 d_Mod_init_122 (by decide) ?_
          refine lv_iand X.1.1 X.1.2.1 d_Mod_init_124 ?_
          rw [dg_and hy1]
          refine nw_istore X (lv' := [(6, _), (0, _), (2, _), (3, _), (4, _), (5, _)]) d_Mod_init_125 hl (by decide) rfl (fun ls hl => ?_)
          refine nw_iload X d_Mod_init_127 (lv_at hl 0 rfl) ?_
          refine nw_iconst X 2 d_Mod_init_129 (by decide) ?_
          refine nw_icmp_eq X (tgt := 166) d_Mod_init_130 (by decide) (by omega) (by decide) (fun hc => ?_) (fun hc => ?_)
          · skip
            refine nw_iconst X 1 d_Mod_init_166 (by decide) ?_
            refine nw_goto X (tgt := 171) d_Mod_init_167 (by decide) ?_
            refine nw_istore X (lv' := [(7, _), (6, _), (0, _), (2, _), (3, _), (4, _), (5, _)]) d_Mod_init_171 hl (by decide) rfl (fun ls hl => ?_)
            refine nw_iload X d_Mod_init_173 (lv_at hl 0 rfl) ?_
            refine nw_if_eq X (tgt := 192) d_Mod_init_175 (by decide) (by decide) (fun hc => ?_) (fun hc => ?_)
            · skip
              exact absurd hc (by decide)
            · skip
              have hp9 : dg_p (dg_r x k) := by unfold dg_p; omega
              refine nw_iload_n X d_Mod_init_178 rfl (lv_at hl 4 rfl) ?_
              refine nw_iload X d_Mod_init_179 (lv_at hl 1 rfl) ?_
              refine nw_imul X d_Mod_init_181 ?_
              refine nw_sipush X 128 d_Mod_init_182 (by decide) ?_
              refine nw_icmp_gt X (tgt := 192) d_Mod_init_185 (by decide) (by omega) (by decide) (fun hc1 => ?_) (fun hc1 => ?_)
              · skip
                refine nw_iconst X 0 d_Mod_init_192 (by decide) ?_
                refine nw_istore X (lv' := [(5, _), (7, _), (6, _), (0, _), (2, _), (3, _), (4, _)]) d_Mod_init_193 hl (by decide) rfl (fun ls hl => ?_)
                refine nw_iload X d_Mod_init_195 (lv_at hl 0 rfl) ?_
                refine nw_if_eq X (tgt := 216) d_Mod_init_197 (by decide) (by decide) (fun hc => ?_) (fun hc => ?_)
                · skip
                  have hst9 : ¬ dg_t x k := fun q9 => by have := q9.2; change dg_q x k * dg_r x k ≤ 128 at this; omega
                  refine nw_iload X d_Mod_init_216 (lv_at hl 6 rfl) ?_
                  refine nw_iconst X 4 d_Mod_init_218 (by decide) ?_
                  refine lv_ishr X.1.1 X.1.2.1 d_Mod_init_219 ?_
                  refine nw_istore X (lv' := [(4, _), (5, _), (7, _), (6, _), (0, _), (2, _), (3, _)]) d_Mod_init_220 hl (by decide) rfl (fun ls hl => ?_)
                  refine nw_goto X (tgt := 109) d_Mod_init_222 (by decide) ?_
                  first
                  | exact IH109 (k + 1) 1 (y >>> (nI 4 &&& 31)) _ _ _ _ (by omega) (by omega) (by decide) (fun _ => dg_shr hy1) (fun h9 => absurd h9 (by decide)) (fun j hj => by by_cases e9 : j = k; rw [e9]; exact ht9; exact ht j (by omega)) (by rw [← dg_up]; exact mi_o hmi hqh) V (lv_sub hl [4, 5, 6, 0, 1] rfl)
                  | exact IH109 k 0 (y >>> (nI 4 &&& 31)) _ _ _ _ (by omega) hk7 (by decide) (fun h9 => absurd h9 (by decide)) (fun _ => hst9) ht hmi V (lv_sub hl [4, 5, 6, 0, 1] rfl)
                · skip
                  exact absurd rfl hc
              · skip
                refine nw_iconst X 1 d_Mod_init_188 (by decide) ?_
                refine nw_goto X (tgt := 193) d_Mod_init_189 (by decide) ?_
                refine nw_istore X (lv' := [(5, _), (7, _), (6, _), (0, _), (2, _), (3, _), (4, _)]) d_Mod_init_193 hl (by decide) rfl (fun ls hl => ?_)
                refine nw_iload X d_Mod_init_195 (lv_at hl 0 rfl) ?_
                refine nw_if_eq X (tgt := 216) d_Mod_init_197 (by decide) (by decide) (fun hc => ?_) (fun hc => ?_)
                · skip
                  exact absurd hc (by decide)
                · skip
                  have ht9 : dg_t x k := ⟨hp9, hc1⟩
                  refine nw_aload_n X d_Mod_init_200 rfl (lv_at hl 3 rfl) ?_
                  refine rw_get Z V (ci := 4) (Cn := R_Mod) (Tb := F_Mod) (Nf := 14) (ref := R_Mod) hmi.1 rfl in_Mod 2 (by decide) wi_459 rfl (by rfl) d_Mod_init_201 ?_
                  refine nw_iload_n X d_Mod_init_204 rfl (lv_at hl 4 rfl) ?_
                  refine nw_iload X d_Mod_init_205 (lv_at hl 2 rfl) ?_
                  refine rw_iast Z V hmi.2.1 (by omega) (by decide) d_Mod_init_207 (fun H locs V => ?_)
                  refine nw_iload_n X d_Mod_init_208 rfl (lv_at hl 5 rfl) ?_
                  refine nw_iload X d_Mod_init_209 (lv_at hl 2 rfl) ?_
                  refine nw_imul X d_Mod_init_211 ?_
                  refine nw_istore_n X (lv' := [(3, _), (5, _), (7, _), (6, _), (0, _), (2, _), (4, _)]) d_Mod_init_212 rfl hl (by decide) rfl (fun ls hl => ?_)
                  refine nw_iinc X (lv' := [(2, _), (3, _), (5, _), (7, _), (6, _), (0, _), (4, _)]) (k := 5) 1 d_Mod_init_213 hl rfl (by decide) (by decide) rfl (fun ls hl => ?_)
                  refine nw_iload X d_Mod_init_216 (lv_at hl 6 rfl) ?_
                  refine nw_iconst X 4 d_Mod_init_218 (by decide) ?_
                  refine lv_ishr X.1.1 X.1.2.1 d_Mod_init_219 ?_
                  refine nw_istore X (lv' := [(4, _), (2, _), (3, _), (5, _), (7, _), (6, _), (0, _)]) d_Mod_init_220 hl (by decide) rfl (fun ls hl => ?_)
                  refine nw_goto X (tgt := 109) d_Mod_init_222 (by decide) ?_
                  first
                  | exact IH109 (k + 1) 1 (y >>> (nI 4 &&& 31)) _ _ _ _ (by omega) (by omega) (by decide) (fun _ => dg_shr hy1) (fun h9 => absurd h9 (by decide)) (fun j hj => by by_cases e9 : j = k; rw [e9]; exact ht9; exact ht j (by omega)) (by rw [← dg_up]; exact mi_o hmi hqh) V (lv_sub hl [6, 1, 2, 0, 3] rfl)
                  | exact IH109 k 0 (y >>> (nI 4 &&& 31)) _ _ _ _ (by omega) hk7 (by decide) (fun h9 => absurd h9 (by decide)) (fun _ => hst9) ht hmi V (lv_sub hl [6, 1, 2, 0, 3] rfl)
          · skip
            refine nw_iload X d_Mod_init_133 (lv_at hl 0 rfl) ?_
            refine nw_iconst X 3 d_Mod_init_135 (by decide) ?_
            refine nw_icmp_eq X (tgt := 166) d_Mod_init_136 (by decide) (by omega) (by decide) (fun hc => ?_) (fun hc => ?_)
            · skip
              refine nw_iconst X 1 d_Mod_init_166 (by decide) ?_
              refine nw_goto X (tgt := 171) d_Mod_init_167 (by decide) ?_
              refine nw_istore X (lv' := [(7, _), (6, _), (0, _), (2, _), (3, _), (4, _), (5, _)]) d_Mod_init_171 hl (by decide) rfl (fun ls hl => ?_)
              refine nw_iload X d_Mod_init_173 (lv_at hl 0 rfl) ?_
              refine nw_if_eq X (tgt := 192) d_Mod_init_175 (by decide) (by decide) (fun hc => ?_) (fun hc => ?_)
              · skip
                exact absurd hc (by decide)
              · skip
                have hp9 : dg_p (dg_r x k) := by unfold dg_p; omega
                refine nw_iload_n X d_Mod_init_178 rfl (lv_at hl 4 rfl) ?_
                refine nw_iload X d_Mod_init_179 (lv_at hl 1 rfl) ?_
                refine nw_imul X d_Mod_init_181 ?_
                refine nw_sipush X 128 d_Mod_init_182 (by decide) ?_
                refine nw_icmp_gt X (tgt := 192) d_Mod_init_185 (by decide) (by omega) (by decide) (fun hc1 => ?_) (fun hc1 => ?_)
                · skip
                  refine nw_iconst X 0 d_Mod_init_192 (by decide) ?_
                  refine nw_istore X (lv' := [(5, _), (7, _), (6, _), (0, _), (2, _), (3, _), (4, _)]) d_Mod_init_193 hl (by decide) rfl (fun ls hl => ?_)
                  refine nw_iload X d_Mod_init_195 (lv_at hl 0 rfl) ?_
                  refine nw_if_eq X (tgt := 216) d_Mod_init_197 (by decide) (by decide) (fun hc => ?_) (fun hc => ?_)
                  · skip
                    have hst9 : ¬ dg_t x k := fun q9 => by have := q9.2; change dg_q x k * dg_r x k ≤ 128 at this; omega
                    refine nw_iload X d_Mod_init_216 (lv_at hl 6 rfl) ?_
                    refine nw_iconst X 4 d_Mod_init_218 (by decide) ?_
                    refine lv_ishr X.1.1 X.1.2.1 d_Mod_init_219 ?_
                    refine nw_istore X (lv' := [(4, _), (5, _), (7, _), (6, _), (0, _), (2, _), (3, _)]) d_Mod_init_220 hl (by decide) rfl (fun ls hl => ?_)
                    refine nw_goto X (tgt := 109) d_Mod_init_222 (by decide) ?_
                    first
                    | exact IH109 (k + 1) 1 (y >>> (nI 4 &&& 31)) _ _ _ _ (by omega) (by omega) (by decide) (fun _ => dg_shr hy1) (fun h9 => absurd h9 (by decide)) (fun j hj => by by_cases e9 : j = k; rw [e9]; exact ht9; exact ht j (by omega)) (by rw [← dg_up]; exact mi_o hmi hqh) V (lv_sub hl [4, 5, 6, 0, 1] rfl)
                    | exact IH109 k 0 (y >>> (nI 4 &&& 31)) _ _ _ _ (by omega) hk7 (by decide) (fun h9 => absurd h9 (by decide)) (fun _ => hst9) ht hmi V (lv_sub hl [4, 5, 6, 0, 1] rfl)
                  · skip
                    exact absurd rfl hc
                · skip
                  refine nw_iconst X 1 d_Mod_init_188 (by decide) ?_
                  refine nw_goto X (tgt := 193) d_Mod_init_189 (by decide) ?_
                  refine nw_istore X (lv' := [(5, _), (7, _), (6, _), (0, _), (2, _), (3, _), (4, _)]) d_Mod_init_193 hl (by decide) rfl (fun ls hl => ?_)
                  refine nw_iload X d_Mod_init_195 (lv_at hl 0 rfl) ?_
                  refine nw_if_eq X (tgt := 216) d_Mod_init_197 (by decide) (by decide) (fun hc => ?_) (fun hc => ?_)
                  · skip
                    exact absurd hc (by decide)
                  · skip
                    have ht9 : dg_t x k := ⟨hp9, hc1⟩
                    refine nw_aload_n X d_Mod_init_200 rfl (lv_at hl 3 rfl) ?_
                    refine rw_get Z V (ci := 4) (Cn := R_Mod) (Tb := F_Mod) (Nf := 14) (ref := R_Mod) hmi.1 rfl in_Mod 2 (by decide) wi_459 rfl (by rfl) d_Mod_init_201 ?_
                    refine nw_iload_n X d_Mod_init_204 rfl (lv_at hl 4 rfl) ?_
                    refine nw_iload X d_Mod_init_205 (lv_at hl 2 rfl) ?_
                    refine rw_iast Z V hmi.2.1 (by omega) (by decide) d_Mod_init_207 (fun H locs V => ?_)
                    refine nw_iload_n X d_Mod_init_208 rfl (lv_at hl 5 rfl) ?_
                    refine nw_iload X d_Mod_init_209 (lv_at hl 2 rfl) ?_
                    refine nw_imul X d_Mod_init_211 ?_
                    refine nw_istore_n X (lv' := [(3, _), (5, _), (7, _), (6, _), (0, _), (2, _), (4, _)]) d_Mod_init_212 rfl hl (by decide) rfl (fun ls hl => ?_)
                    refine nw_iinc X (lv' := [(2, _), (3, _), (5, _), (7, _), (6, _), (0, _), (4, _)]) (k := 5) 1 d_Mod_init_213 hl rfl (by decide) (by decide) rfl (fun ls hl => ?_)
                    refine nw_iload X d_Mod_init_216 (lv_at hl 6 rfl) ?_
                    refine nw_iconst X 4 d_Mod_init_218 (by decide) ?_
                    refine lv_ishr X.1.1 X.1.2.1 d_Mod_init_219 ?_
                    refine nw_istore X (lv' := [(4, _), (2, _), (3, _), (5, _), (7, _), (6, _), (0, _)]) d_Mod_init_220 hl (by decide) rfl (fun ls hl => ?_)
                    refine nw_goto X (tgt := 109) d_Mod_init_222 (by decide) ?_
                    first
                    | exact IH109 (k + 1) 1 (y >>> (nI 4 &&& 31)) _ _ _ _ (by omega) (by omega) (by decide) (fun _ => dg_shr hy1) (fun h9 => absurd h9 (by decide)) (fun j hj => by by_cases e9 : j = k; rw [e9]; exact ht9; exact ht j (by omega)) (by rw [← dg_up]; exact mi_o hmi hqh) V (lv_sub hl [6, 1, 2, 0, 3] rfl)
                    | exact IH109 k 0 (y >>> (nI 4 &&& 31)) _ _ _ _ (by omega) hk7 (by decide) (fun h9 => absurd h9 (by decide)) (fun _ => hst9) ht hmi V (lv_sub hl [6, 1, 2, 0, 3] rfl)
            · skip
              refine nw_iload X d_Mod_init_139 (lv_at hl 0 rfl) ?_
              refine nw_iconst X 5 d_Mod_init_141 (by decide) ?_
              refine nw_icmp_eq X (tgt := 166) d_Mod_init_142 (by decide) (by omega) (by decide) (fun hc => ?_) (fun hc => ?_)
              · skip
                refine nw_iconst X 1 d_Mod_init_166 (by decide) ?_
                refine nw_goto X (tgt := 171) d_Mod_init_167 (by decide) ?_
                refine nw_istore X (lv' := [(7, _), (6, _), (0, _), (2, _), (3, _), (4, _), (5, _)]) d_Mod_init_171 hl (by decide) rfl (fun ls hl => ?_)
                refine nw_iload X d_Mod_init_173 (lv_at hl 0 rfl) ?_
                refine nw_if_eq X (tgt := 192) d_Mod_init_175 (by decide) (by decide) (fun hc => ?_) (fun hc => ?_)
                · skip
                  exact absurd hc (by decide)
                · skip
                  have hp9 : dg_p (dg_r x k) := by unfold dg_p; omega
                  refine nw_iload_n X d_Mod_init_178 rfl (lv_at hl 4 rfl) ?_
                  refine nw_iload X d_Mod_init_179 (lv_at hl 1 rfl) ?_
                  refine nw_imul X d_Mod_init_181 ?_
                  refine nw_sipush X 128 d_Mod_init_182 (by decide) ?_
                  refine nw_icmp_gt X (tgt := 192) d_Mod_init_185 (by decide) (by omega) (by decide) (fun hc1 => ?_) (fun hc1 => ?_)
                  · skip
                    refine nw_iconst X 0 d_Mod_init_192 (by decide) ?_
                    refine nw_istore X (lv' := [(5, _), (7, _), (6, _), (0, _), (2, _), (3, _), (4, _)]) d_Mod_init_193 hl (by decide) rfl (fun ls hl => ?_)
                    refine nw_iload X d_Mod_init_195 (lv_at hl 0 rfl) ?_
                    refine nw_if_eq X (tgt := 216) d_Mod_init_197 (by decide) (by decide) (fun hc => ?_) (fun hc => ?_)
                    · skip
                      have hst9 : ¬ dg_t x k := fun q9 => by have := q9.2; change dg_q x k * dg_r x k ≤ 128 at this; omega
                      refine nw_iload X d_Mod_init_216 (lv_at hl 6 rfl) ?_
                      refine nw_iconst X 4 d_Mod_init_218 (by decide) ?_
                      refine lv_ishr X.1.1 X.1.2.1 d_Mod_init_219 ?_
                      refine nw_istore X (lv' := [(4, _), (5, _), (7, _), (6, _), (0, _), (2, _), (3, _)]) d_Mod_init_220 hl (by decide) rfl (fun ls hl => ?_)
                      refine nw_goto X (tgt := 109) d_Mod_init_222 (by decide) ?_
                      first
                      | exact IH109 (k + 1) 1 (y >>> (nI 4 &&& 31)) _ _ _ _ (by omega) (by omega) (by decide) (fun _ => dg_shr hy1) (fun h9 => absurd h9 (by decide)) (fun j hj => by by_cases e9 : j = k; rw [e9]; exact ht9; exact ht j (by omega)) (by rw [← dg_up]; exact mi_o hmi hqh) V (lv_sub hl [4, 5, 6, 0, 1] rfl)
                      | exact IH109 k 0 (y >>> (nI 4 &&& 31)) _ _ _ _ (by omega) hk7 (by decide) (fun h9 => absurd h9 (by decide)) (fun _ => hst9) ht hmi V (lv_sub hl [4, 5, 6, 0, 1] rfl)
                    · skip
                      exact absurd rfl hc
                  · skip
                    refine nw_iconst X 1 d_Mod_init_188 (by decide) ?_
                    refine nw_goto X (tgt := 193) d_Mod_init_189 (by decide) ?_
                    refine nw_istore X (lv' := [(5, _), (7, _), (6, _), (0, _), (2, _), (3, _), (4, _)]) d_Mod_init_193 hl (by decide) rfl (fun ls hl => ?_)
                    refine nw_iload X d_Mod_init_195 (lv_at hl 0 rfl) ?_
                    refine nw_if_eq X (tgt := 216) d_Mod_init_197 (by decide) (by decide) (fun hc => ?_) (fun hc => ?_)
                    · skip
                      exact absurd hc (by decide)
                    · skip
                      have ht9 : dg_t x k := ⟨hp9, hc1⟩
                      refine nw_aload_n X d_Mod_init_200 rfl (lv_at hl 3 rfl) ?_
                      refine rw_get Z V (ci := 4) (Cn := R_Mod) (Tb := F_Mod) (Nf := 14) (ref := R_Mod) hmi.1 rfl in_Mod 2 (by decide) wi_459 rfl (by rfl) d_Mod_init_201 ?_
                      refine nw_iload_n X d_Mod_init_204 rfl (lv_at hl 4 rfl) ?_
                      refine nw_iload X d_Mod_init_205 (lv_at hl 2 rfl) ?_
                      refine rw_iast Z V hmi.2.1 (by omega) (by decide) d_Mod_init_207 (fun H locs V => ?_)
                      refine nw_iload_n X d_Mod_init_208 rfl (lv_at hl 5 rfl) ?_
                      refine nw_iload X d_Mod_init_209 (lv_at hl 2 rfl) ?_
                      refine nw_imul X d_Mod_init_211 ?_
                      refine nw_istore_n X (lv' := [(3, _), (5, _), (7, _), (6, _), (0, _), (2, _), (4, _)]) d_Mod_init_212 rfl hl (by decide) rfl (fun ls hl => ?_)
                      refine nw_iinc X (lv' := [(2, _), (3, _), (5, _), (7, _), (6, _), (0, _), (4, _)]) (k := 5) 1 d_Mod_init_213 hl rfl (by decide) (by decide) rfl (fun ls hl => ?_)
                      refine nw_iload X d_Mod_init_216 (lv_at hl 6 rfl) ?_
                      refine nw_iconst X 4 d_Mod_init_218 (by decide) ?_
                      refine lv_ishr X.1.1 X.1.2.1 d_Mod_init_219 ?_
                      refine nw_istore X (lv' := [(4, _), (2, _), (3, _), (5, _), (7, _), (6, _), (0, _)]) d_Mod_init_220 hl (by decide) rfl (fun ls hl => ?_)
                      refine nw_goto X (tgt := 109) d_Mod_init_222 (by decide) ?_
                      first
                      | exact IH109 (k + 1) 1 (y >>> (nI 4 &&& 31)) _ _ _ _ (by omega) (by omega) (by decide) (fun _ => dg_shr hy1) (fun h9 => absurd h9 (by decide)) (fun j hj => by by_cases e9 : j = k; rw [e9]; exact ht9; exact ht j (by omega)) (by rw [← dg_up]; exact mi_o hmi hqh) V (lv_sub hl [6, 1, 2, 0, 3] rfl)
                      | exact IH109 k 0 (y >>> (nI 4 &&& 31)) _ _ _ _ (by omega) hk7 (by decide) (fun h9 => absurd h9 (by decide)) (fun _ => hst9) ht hmi V (lv_sub hl [6, 1, 2, 0, 3] rfl)
              · skip
                refine nw_iload X d_Mod_init_145 (lv_at hl 0 rfl) ?_
                refine nw_bipush X 7 d_Mod_init_147 (by decide) ?_
                refine nw_icmp_eq X (tgt := 166) d_Mod_init_149 (by decide) (by omega) (by decide) (fun hc => ?_) (fun hc => ?_)
                · skip
                  refine nw_iconst X 1 d_Mod_init_166 (by decide) ?_
                  refine nw_goto X (tgt := 171) d_Mod_init_167 (by decide) ?_
                  refine nw_istore X (lv' := [(7, _), (6, _), (0, _), (2, _), (3, _), (4, _), (5, _)]) d_Mod_init_171 hl (by decide) rfl (fun ls hl => ?_)
                  refine nw_iload X d_Mod_init_173 (lv_at hl 0 rfl) ?_
                  refine nw_if_eq X (tgt := 192) d_Mod_init_175 (by decide) (by decide) (fun hc => ?_) (fun hc => ?_)
                  · skip
                    exact absurd hc (by decide)
                  · skip
                    have hp9 : dg_p (dg_r x k) := by unfold dg_p; omega
                    refine nw_iload_n X d_Mod_init_178 rfl (lv_at hl 4 rfl) ?_
                    refine nw_iload X d_Mod_init_179 (lv_at hl 1 rfl) ?_
                    refine nw_imul X d_Mod_init_181 ?_
                    refine nw_sipush X 128 d_Mod_init_182 (by decide) ?_
                    refine nw_icmp_gt X (tgt := 192) d_Mod_init_185 (by decide) (by omega) (by decide) (fun hc1 => ?_) (fun hc1 => ?_)
                    · skip
                      refine nw_iconst X 0 d_Mod_init_192 (by decide) ?_
                      refine nw_istore X (lv' := [(5, _), (7, _), (6, _), (0, _), (2, _), (3, _), (4, _)]) d_Mod_init_193 hl (by decide) rfl (fun ls hl => ?_)
                      refine nw_iload X d_Mod_init_195 (lv_at hl 0 rfl) ?_
                      refine nw_if_eq X (tgt := 216) d_Mod_init_197 (by decide) (by decide) (fun hc => ?_) (fun hc => ?_)
                      · skip
                        have hst9 : ¬ dg_t x k := fun q9 => by have := q9.2; change dg_q x k * dg_r x k ≤ 128 at this; omega
                        refine nw_iload X d_Mod_init_216 (lv_at hl 6 rfl) ?_
                        refine nw_iconst X 4 d_Mod_init_218 (by decide) ?_
                        refine lv_ishr X.1.1 X.1.2.1 d_Mod_init_219 ?_
                        refine nw_istore X (lv' := [(4, _), (5, _), (7, _), (6, _), (0, _), (2, _), (3, _)]) d_Mod_init_220 hl (by decide) rfl (fun ls hl => ?_)
                        refine nw_goto X (tgt := 109) d_Mod_init_222 (by decide) ?_
                        first
                        | exact IH109 (k + 1) 1 (y >>> (nI 4 &&& 31)) _ _ _ _ (by omega) (by omega) (by decide) (fun _ => dg_shr hy1) (fun h9 => absurd h9 (by decide)) (fun j hj => by by_cases e9 : j = k; rw [e9]; exact ht9; exact ht j (by omega)) (by rw [← dg_up]; exact mi_o hmi hqh) V (lv_sub hl [4, 5, 6, 0, 1] rfl)
                        | exact IH109 k 0 (y >>> (nI 4 &&& 31)) _ _ _ _ (by omega) hk7 (by decide) (fun h9 => absurd h9 (by decide)) (fun _ => hst9) ht hmi V (lv_sub hl [4, 5, 6, 0, 1] rfl)
                      · skip
                        exact absurd rfl hc
                    · skip
                      refine nw_iconst X 1 d_Mod_init_188 (by decide) ?_
                      refine nw_goto X (tgt := 193) d_Mod_init_189 (by decide) ?_
                      refine nw_istore X (lv' := [(5, _), (7, _), (6, _), (0, _), (2, _), (3, _), (4, _)]) d_Mod_init_193 hl (by decide) rfl (fun ls hl => ?_)
                      refine nw_iload X d_Mod_init_195 (lv_at hl 0 rfl) ?_
                      refine nw_if_eq X (tgt := 216) d_Mod_init_197 (by decide) (by decide) (fun hc => ?_) (fun hc => ?_)
                      · skip
                        exact absurd hc (by decide)
                      · skip
                        have ht9 : dg_t x k := ⟨hp9, hc1⟩
                        refine nw_aload_n X d_Mod_init_200 rfl (lv_at hl 3 rfl) ?_
                        refine rw_get Z V (ci := 4) (Cn := R_Mod) (Tb := F_Mod) (Nf := 14) (ref := R_Mod) hmi.1 rfl in_Mod 2 (by decide) wi_459 rfl (by rfl) d_Mod_init_201 ?_
                        refine nw_iload_n X d_Mod_init_204 rfl (lv_at hl 4 rfl) ?_
                        refine nw_iload X d_Mod_init_205 (lv_at hl 2 rfl) ?_
                        refine rw_iast Z V hmi.2.1 (by omega) (by decide) d_Mod_init_207 (fun H locs V => ?_)
                        refine nw_iload_n X d_Mod_init_208 rfl (lv_at hl 5 rfl) ?_
                        refine nw_iload X d_Mod_init_209 (lv_at hl 2 rfl) ?_
                        refine nw_imul X d_Mod_init_211 ?_
                        refine nw_istore_n X (lv' := [(3, _), (5, _), (7, _), (6, _), (0, _), (2, _), (4, _)]) d_Mod_init_212 rfl hl (by decide) rfl (fun ls hl => ?_)
                        refine nw_iinc X (lv' := [(2, _), (3, _), (5, _), (7, _), (6, _), (0, _), (4, _)]) (k := 5) 1 d_Mod_init_213 hl rfl (by decide) (by decide) rfl (fun ls hl => ?_)
                        refine nw_iload X d_Mod_init_216 (lv_at hl 6 rfl) ?_
                        refine nw_iconst X 4 d_Mod_init_218 (by decide) ?_
                        refine lv_ishr X.1.1 X.1.2.1 d_Mod_init_219 ?_
                        refine nw_istore X (lv' := [(4, _), (2, _), (3, _), (5, _), (7, _), (6, _), (0, _)]) d_Mod_init_220 hl (by decide) rfl (fun ls hl => ?_)
                        refine nw_goto X (tgt := 109) d_Mod_init_222 (by decide) ?_
                        first
                        | exact IH109 (k + 1) 1 (y >>> (nI 4 &&& 31)) _ _ _ _ (by omega) (by omega) (by decide) (fun _ => dg_shr hy1) (fun h9 => absurd h9 (by decide)) (fun j hj => by by_cases e9 : j = k; rw [e9]; exact ht9; exact ht j (by omega)) (by rw [← dg_up]; exact mi_o hmi hqh) V (lv_sub hl [6, 1, 2, 0, 3] rfl)
                        | exact IH109 k 0 (y >>> (nI 4 &&& 31)) _ _ _ _ (by omega) hk7 (by decide) (fun h9 => absurd h9 (by decide)) (fun _ => hst9) ht hmi V (lv_sub hl [6, 1, 2, 0, 3] rfl)
                · skip
                  refine nw_iload X d_Mod_init_152 (lv_at hl 0 rfl) ?_
                  refine nw_bipush X 11 d_Mod_init_154 (by decide) ?_
                  refine nw_icmp_eq X (tgt := 166) d_Mod_init_156 (by decide) (by omega) (by decide) (fun hc => ?_) (fun hc => ?_)
                  · skip
                    refine nw_iconst X 1 d_Mod_init_166 (by decide) ?_
                    refine nw_goto X (tgt := 171) d_Mod_init_167 (by decide) ?_
                    refine nw_istore X (lv' := [(7, _), (6, _), (0, _), (2, _), (3, _), (4, _), (5, _)]) d_Mod_init_171 hl (by decide) rfl (fun ls hl => ?_)
                    refine nw_iload X d_Mod_init_173 (lv_at hl 0 rfl) ?_
                    refine nw_if_eq X (tgt := 192) d_Mod_init_175 (by decide) (by decide) (fun hc => ?_) (fun hc => ?_)
                    · skip
                      exact absurd hc (by decide)
                    · skip
                      have hp9 : dg_p (dg_r x k) := by unfold dg_p; omega
                      refine nw_iload_n X d_Mod_init_178 rfl (lv_at hl 4 rfl) ?_
                      refine nw_iload X d_Mod_init_179 (lv_at hl 1 rfl) ?_
                      refine nw_imul X d_Mod_init_181 ?_
                      refine nw_sipush X 128 d_Mod_init_182 (by decide) ?_
                      refine nw_icmp_gt X (tgt := 192) d_Mod_init_185 (by decide) (by omega) (by decide) (fun hc1 => ?_) (fun hc1 => ?_)
                      · skip
                        refine nw_iconst X 0 d_Mod_init_192 (by decide) ?_
                        refine nw_istore X (lv' := [(5, _), (7, _), (6, _), (0, _), (2, _), (3, _), (4, _)]) d_Mod_init_193 hl (by decide) rfl (fun ls hl => ?_)
                        refine nw_iload X d_Mod_init_195 (lv_at hl 0 rfl) ?_
                        refine nw_if_eq X (tgt := 216) d_Mod_init_197 (by decide) (by decide) (fun hc => ?_) (fun hc => ?_)
                        · skip
                          have hst9 : ¬ dg_t x k := fun q9 => by have := q9.2; change dg_q x k * dg_r x k ≤ 128 at this; omega
                          refine nw_iload X d_Mod_init_216 (lv_at hl 6 rfl) ?_
                          refine nw_iconst X 4 d_Mod_init_218 (by decide) ?_
                          refine lv_ishr X.1.1 X.1.2.1 d_Mod_init_219 ?_
                          refine nw_istore X (lv' := [(4, _), (5, _), (7, _), (6, _), (0, _), (2, _), (3, _)]) d_Mod_init_220 hl (by decide) rfl (fun ls hl => ?_)
                          refine nw_goto X (tgt := 109) d_Mod_init_222 (by decide) ?_
                          first
                          | exact IH109 (k + 1) 1 (y >>> (nI 4 &&& 31)) _ _ _ _ (by omega) (by omega) (by decide) (fun _ => dg_shr hy1) (fun h9 => absurd h9 (by decide)) (fun j hj => by by_cases e9 : j = k; rw [e9]; exact ht9; exact ht j (by omega)) (by rw [← dg_up]; exact mi_o hmi hqh) V (lv_sub hl [4, 5, 6, 0, 1] rfl)
                          | exact IH109 k 0 (y >>> (nI 4 &&& 31)) _ _ _ _ (by omega) hk7 (by decide) (fun h9 => absurd h9 (by decide)) (fun _ => hst9) ht hmi V (lv_sub hl [4, 5, 6, 0, 1] rfl)
                        · skip
                          exact absurd rfl hc
                      · skip
                        refine nw_iconst X 1 d_Mod_init_188 (by decide) ?_
                        refine nw_goto X (tgt := 193) d_Mod_init_189 (by decide) ?_
                        refine nw_istore X (lv' := [(5, _), (7, _), (6, _), (0, _), (2, _), (3, _), (4, _)]) d_Mod_init_193 hl (by decide) rfl (fun ls hl => ?_)
                        refine nw_iload X d_Mod_init_195 (lv_at hl 0 rfl) ?_
                        refine nw_if_eq X (tgt := 216) d_Mod_init_197 (by decide) (by decide) (fun hc => ?_) (fun hc => ?_)
                        · skip
                          exact absurd hc (by decide)
                        · skip
                          have ht9 : dg_t x k := ⟨hp9, hc1⟩
                          refine nw_aload_n X d_Mod_init_200 rfl (lv_at hl 3 rfl) ?_
                          refine rw_get Z V (ci := 4) (Cn := R_Mod) (Tb := F_Mod) (Nf := 14) (ref := R_Mod) hmi.1 rfl in_Mod 2 (by decide) wi_459 rfl (by rfl) d_Mod_init_201 ?_
                          refine nw_iload_n X d_Mod_init_204 rfl (lv_at hl 4 rfl) ?_
                          refine nw_iload X d_Mod_init_205 (lv_at hl 2 rfl) ?_
                          refine rw_iast Z V hmi.2.1 (by omega) (by decide) d_Mod_init_207 (fun H locs V => ?_)
                          refine nw_iload_n X d_Mod_init_208 rfl (lv_at hl 5 rfl) ?_
                          refine nw_iload X d_Mod_init_209 (lv_at hl 2 rfl) ?_
                          refine nw_imul X d_Mod_init_211 ?_
                          refine nw_istore_n X (lv' := [(3, _), (5, _), (7, _), (6, _), (0, _), (2, _), (4, _)]) d_Mod_init_212 rfl hl (by decide) rfl (fun ls hl => ?_)
                          refine nw_iinc X (lv' := [(2, _), (3, _), (5, _), (7, _), (6, _), (0, _), (4, _)]) (k := 5) 1 d_Mod_init_213 hl rfl (by decide) (by decide) rfl (fun ls hl => ?_)
                          refine nw_iload X d_Mod_init_216 (lv_at hl 6 rfl) ?_
                          refine nw_iconst X 4 d_Mod_init_218 (by decide) ?_
                          refine lv_ishr X.1.1 X.1.2.1 d_Mod_init_219 ?_
                          refine nw_istore X (lv' := [(4, _), (2, _), (3, _), (5, _), (7, _), (6, _), (0, _)]) d_Mod_init_220 hl (by decide) rfl (fun ls hl => ?_)
                          refine nw_goto X (tgt := 109) d_Mod_init_222 (by decide) ?_
                          first
                          | exact IH109 (k + 1) 1 (y >>> (nI 4 &&& 31)) _ _ _ _ (by omega) (by omega) (by decide) (fun _ => dg_shr hy1) (fun h9 => absurd h9 (by decide)) (fun j hj => by by_cases e9 : j = k; rw [e9]; exact ht9; exact ht j (by omega)) (by rw [← dg_up]; exact mi_o hmi hqh) V (lv_sub hl [6, 1, 2, 0, 3] rfl)
                          | exact IH109 k 0 (y >>> (nI 4 &&& 31)) _ _ _ _ (by omega) hk7 (by decide) (fun h9 => absurd h9 (by decide)) (fun _ => hst9) ht hmi V (lv_sub hl [6, 1, 2, 0, 3] rfl)
                  · skip
                    refine nw_iload X d_Mod_init_159 (lv_at hl 0 rfl) ?_
                    refine nw_bipush X 13 d_Mod_init_161 (by decide) ?_
                    refine nw_icmp_ne X (tgt := 170) d_Mod_init_163 (by decide) (by omega) (by decide) (fun hc => ?_) (fun hc => ?_)
                    · skip
                      refine nw_iconst X 0 d_Mod_init_170 (by decide) ?_
                      refine nw_istore X (lv' := [(7, _), (6, _), (0, _), (2, _), (3, _), (4, _), (5, _)]) d_Mod_init_171 hl (by decide) rfl (fun ls hl => ?_)
                      refine nw_iload X d_Mod_init_173 (lv_at hl 0 rfl) ?_
                      refine nw_if_eq X (tgt := 192) d_Mod_init_175 (by decide) (by decide) (fun hc => ?_) (fun hc => ?_)
                      · skip
                        have hnp : ¬ dg_p (dg_r x k) := fun h9 => by unfold dg_p at h9; omega
                        refine nw_iconst X 0 d_Mod_init_192 (by decide) ?_
                        refine nw_istore X (lv' := [(5, _), (7, _), (6, _), (0, _), (2, _), (3, _), (4, _)]) d_Mod_init_193 hl (by decide) rfl (fun ls hl => ?_)
                        refine nw_iload X d_Mod_init_195 (lv_at hl 0 rfl) ?_
                        refine nw_if_eq X (tgt := 216) d_Mod_init_197 (by decide) (by decide) (fun hc => ?_) (fun hc => ?_)
                        · skip
                          have hst9 : ¬ dg_t x k := fun q9 => hnp q9.1
                          refine nw_iload X d_Mod_init_216 (lv_at hl 6 rfl) ?_
                          refine nw_iconst X 4 d_Mod_init_218 (by decide) ?_
                          refine lv_ishr X.1.1 X.1.2.1 d_Mod_init_219 ?_
                          refine nw_istore X (lv' := [(4, _), (5, _), (7, _), (6, _), (0, _), (2, _), (3, _)]) d_Mod_init_220 hl (by decide) rfl (fun ls hl => ?_)
                          refine nw_goto X (tgt := 109) d_Mod_init_222 (by decide) ?_
                          first
                          | exact IH109 (k + 1) 1 (y >>> (nI 4 &&& 31)) _ _ _ _ (by omega) (by omega) (by decide) (fun _ => dg_shr hy1) (fun h9 => absurd h9 (by decide)) (fun j hj => by by_cases e9 : j = k; rw [e9]; exact ht9; exact ht j (by omega)) (by rw [← dg_up]; exact mi_o hmi hqh) V (lv_sub hl [4, 5, 6, 0, 1] rfl)
                          | exact IH109 k 0 (y >>> (nI 4 &&& 31)) _ _ _ _ (by omega) hk7 (by decide) (fun h9 => absurd h9 (by decide)) (fun _ => hst9) ht hmi V (lv_sub hl [4, 5, 6, 0, 1] rfl)
                        · skip
                          exact absurd rfl hc
                      · skip
                        exact absurd rfl hc
                    · skip
                      refine nw_iconst X 1 d_Mod_init_166 (by decide) ?_
                      refine nw_goto X (tgt := 171) d_Mod_init_167 (by decide) ?_
                      refine nw_istore X (lv' := [(7, _), (6, _), (0, _), (2, _), (3, _), (4, _), (5, _)]) d_Mod_init_171 hl (by decide) rfl (fun ls hl => ?_)
                      refine nw_iload X d_Mod_init_173 (lv_at hl 0 rfl) ?_
                      refine nw_if_eq X (tgt := 192) d_Mod_init_175 (by decide) (by decide) (fun hc => ?_) (fun hc => ?_)
                      · skip
                        exact absurd hc (by decide)
                      · skip
                        have hp9 : dg_p (dg_r x k) := by unfold dg_p; omega
                        refine nw_iload_n X d_Mod_init_178 rfl (lv_at hl 4 rfl) ?_
                        refine nw_iload X d_Mod_init_179 (lv_at hl 1 rfl) ?_
                        refine nw_imul X d_Mod_init_181 ?_
                        refine nw_sipush X 128 d_Mod_init_182 (by decide) ?_
                        refine nw_icmp_gt X (tgt := 192) d_Mod_init_185 (by decide) (by omega) (by decide) (fun hc1 => ?_) (fun hc1 => ?_)
                        · skip
                          refine nw_iconst X 0 d_Mod_init_192 (by decide) ?_
                          refine nw_istore X (lv' := [(5, _), (7, _), (6, _), (0, _), (2, _), (3, _), (4, _)]) d_Mod_init_193 hl (by decide) rfl (fun ls hl => ?_)
                          refine nw_iload X d_Mod_init_195 (lv_at hl 0 rfl) ?_
                          refine nw_if_eq X (tgt := 216) d_Mod_init_197 (by decide) (by decide) (fun hc => ?_) (fun hc => ?_)
                          · skip
                            have hst9 : ¬ dg_t x k := fun q9 => by have := q9.2; change dg_q x k * dg_r x k ≤ 128 at this; omega
                            refine nw_iload X d_Mod_init_216 (lv_at hl 6 rfl) ?_
                            refine nw_iconst X 4 d_Mod_init_218 (by decide) ?_
                            refine lv_ishr X.1.1 X.1.2.1 d_Mod_init_219 ?_
                            refine nw_istore X (lv' := [(4, _), (5, _), (7, _), (6, _), (0, _), (2, _), (3, _)]) d_Mod_init_220 hl (by decide) rfl (fun ls hl => ?_)
                            refine nw_goto X (tgt := 109) d_Mod_init_222 (by decide) ?_
                            first
                            | exact IH109 (k + 1) 1 (y >>> (nI 4 &&& 31)) _ _ _ _ (by omega) (by omega) (by decide) (fun _ => dg_shr hy1) (fun h9 => absurd h9 (by decide)) (fun j hj => by by_cases e9 : j = k; rw [e9]; exact ht9; exact ht j (by omega)) (by rw [← dg_up]; exact mi_o hmi hqh) V (lv_sub hl [4, 5, 6, 0, 1] rfl)
                            | exact IH109 k 0 (y >>> (nI 4 &&& 31)) _ _ _ _ (by omega) hk7 (by decide) (fun h9 => absurd h9 (by decide)) (fun _ => hst9) ht hmi V (lv_sub hl [4, 5, 6, 0, 1] rfl)
                          · skip
                            exact absurd rfl hc
                        · skip
                          refine nw_iconst X 1 d_Mod_init_188 (by decide) ?_
                          refine nw_goto X (tgt := 193) d_Mod_init_189 (by decide) ?_
                          refine nw_istore X (lv' := [(5, _), (7, _), (6, _), (0, _), (2, _), (3, _), (4, _)]) d_Mod_init_193 hl (by decide) rfl (fun ls hl => ?_)
                          refine nw_iload X d_Mod_init_195 (lv_at hl 0 rfl) ?_
                          refine nw_if_eq X (tgt := 216) d_Mod_init_197 (by decide) (by decide) (fun hc => ?_) (fun hc => ?_)
                          · skip
                            exact absurd hc (by decide)
                          · skip
                            have ht9 : dg_t x k := ⟨hp9, hc1⟩
                            refine nw_aload_n X d_Mod_init_200 rfl (lv_at hl 3 rfl) ?_
                            refine rw_get Z V (ci := 4) (Cn := R_Mod) (Tb := F_Mod) (Nf := 14) (ref := R_Mod) hmi.1 rfl in_Mod 2 (by decide) wi_459 rfl (by rfl) d_Mod_init_201 ?_
                            refine nw_iload_n X d_Mod_init_204 rfl (lv_at hl 4 rfl) ?_
                            refine nw_iload X d_Mod_init_205 (lv_at hl 2 rfl) ?_
                            refine rw_iast Z V hmi.2.1 (by omega) (by decide) d_Mod_init_207 (fun H locs V => ?_)
                            refine nw_iload_n X d_Mod_init_208 rfl (lv_at hl 5 rfl) ?_
                            refine nw_iload X d_Mod_init_209 (lv_at hl 2 rfl) ?_
                            refine nw_imul X d_Mod_init_211 ?_
                            refine nw_istore_n X (lv' := [(3, _), (5, _), (7, _), (6, _), (0, _), (2, _), (4, _)]) d_Mod_init_212 rfl hl (by decide) rfl (fun ls hl => ?_)
                            refine nw_iinc X (lv' := [(2, _), (3, _), (5, _), (7, _), (6, _), (0, _), (4, _)]) (k := 5) 1 d_Mod_init_213 hl rfl (by decide) (by decide) rfl (fun ls hl => ?_)
                            refine nw_iload X d_Mod_init_216 (lv_at hl 6 rfl) ?_
                            refine nw_iconst X 4 d_Mod_init_218 (by decide) ?_
                            refine lv_ishr X.1.1 X.1.2.1 d_Mod_init_219 ?_
                            refine nw_istore X (lv' := [(4, _), (2, _), (3, _), (5, _), (7, _), (6, _), (0, _)]) d_Mod_init_220 hl (by decide) rfl (fun ls hl => ?_)
                            refine nw_goto X (tgt := 109) d_Mod_init_222 (by decide) ?_
                            first
                            | exact IH109 (k + 1) 1 (y >>> (nI 4 &&& 31)) _ _ _ _ (by omega) (by omega) (by decide) (fun _ => dg_shr hy1) (fun h9 => absurd h9 (by decide)) (fun j hj => by by_cases e9 : j = k; rw [e9]; exact ht9; exact ht j (by omega)) (by rw [← dg_up]; exact mi_o hmi hqh) V (lv_sub hl [6, 1, 2, 0, 3] rfl)
                            | exact IH109 k 0 (y >>> (nI 4 &&& 31)) _ _ _ _ (by omega) hk7 (by decide) (fun h9 => absurd h9 (by decide)) (fun _ => hst9) ht hmi V (lv_sub hl [6, 1, 2, 0, 3] rfl)
  refine W.widen (k := 11) (n := 17606) (by omega) (by omega) ?_
  exact LP109 (8 + 1) 0 1 x _ _ _ _ (by omega) (by omega) (by decide) (fun _ => rfl) (fun h9 => absurd h9 (by decide)) (fun j hj => absurd hj (Nat.not_lt_zero _)) ⟨by repeat (first | exact rw_at | assumption | refine rw_ne (by omega) ?_), by rw [← dg_f0]; repeat (first | exact rw_at | assumption | refine rw_ne (by omega) ?_), by repeat (first | exact rw_at | assumption | refine rw_ne (by omega) ?_), by repeat (first | exact rw_at | assumption | refine rw_ne (by omega) ?_), by repeat (first | exact rw_at | assumption | refine rw_ne (by omega) ?_), by repeat (first | exact rw_at | assumption | refine rw_ne (by omega) ?_), by repeat (first | exact rw_at | assumption | refine rw_ne (by omega) ?_), by repeat (first | exact rw_at | assumption | refine rw_ne (by omega) ?_), by repeat (first | exact rw_at | assumption | refine rw_ne (by omega) ?_), by repeat (first | exact rw_at | assumption | refine rw_ne (by omega) ?_), by repeat (first | exact rw_at | assumption | refine rw_ne (by omega) ?_), by repeat (first | exact rw_at | assumption | refine rw_ne (by omega) ?_), fun a h1 h2 => by repeat (first | rfl | refine rw_ne (by omega) ?_)⟩ (rw_sz V (by omega)) (lv_sub hl [4, 3, 2, 1, 0] rfl)
