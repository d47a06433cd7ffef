/-! The class's constructor. By program (wip/whole/gen/init4.py). -/
set_option maxHeartbeats 4000000 in
set_option maxRecDepth 20000 in
theorem rm_Top_init (l : Launch) (D : va_G) (C : Nat → ClassId) (a0 : Nat) (w : rw_M) (h : Nat) (q : Nat) (x : Int32) (hq : w q = some (.inr (3, [.null, .null, .null, .null, .null, .null, .int 0]))) : Met l y_Top_init (hw_c y_Top_init b_Top_init 3 none) (rw_r 3 70 4100) (va_Pc [.ref q, .int x] (rw_b D C a0 (w, h))) (va_Qv (fun u9 => ∃ n P N f gm gc g R wc w0, tp_e C h q x w u9.1 u9.2 n P N f gm gc g R wc w0) (rw_b D C a0) (rw_A a0)) 70 4100 (rw_A a0) := by
  refine rw_metv (post := (fun u9 => ∃ n P N f gm gc g R wc w0, tp_e C h q x w u9.1 u9.2 n P N f gm gc g R wc w0)) (by decide) (Nat.le_of_ble_eq_true rfl) ?_
  intro p e s m args below meth c ls Q Z hnm hret V hl
  have V : rw_v D a0 w h s.heap s.heap [] := V
  have X := Z.1
  have hl : lv_has ls 3 [(0, .ref q), (1, .int x)] := hl
  have hqh := rw_lt V hq
  refine nw_aload_n X d_Top_init_0 rfl (lv_at hl 0 rfl) ?_
  refine rw_obj Z wi_45 hl.1 (by decide) (Nat.le_of_ble_eq_true rfl) d_Top_init_1 ?_
  refine nw_aload_n X d_Top_init_4 rfl (lv_at hl 0 rfl) ?_
  refine rw_new Z V 0 rfl in_Col t_Col t_Col_ok wi_48 wi_49 wi_33 [.int 0, .int 0, .null, .null, .null, .null, .null, .null] (by decide) (show _ ≤ 70 by omega) (show _ ≤ 4100 by omega) d_Top_init_5 (fun H V => ?_)
  refine nw_dup X d_Top_init_8 rfl ?_
  refine nw_iload_n X d_Top_init_9 rfl (lv_at hl 1 rfl) ?_
  refine rw_callR (n := 1) Z V (rm_Top_primeDigits l D C a0 _ _ x) ⟨wi_50, wi_32, wi_52, by decide +kernel⟩ wi_51 ⟨by decide, Nat.le_of_ble_eq_true rfl⟩ rfl hl.1 rfl (Nat.le_of_ble_eq_true rfl) ⟨show _ ≤ 70 by omega, show _ ≤ 4100 by omega⟩ d_Top_init_10 (fun r w1 h1 H locs V hr => ?_)
  obtain ⟨n, hg, rfl, rfl, r1, r2⟩ := hr
  have hn7 : n ≤ 7 := hg.1
  refine rw_callI (n := 1) Z V (rm_Col_init l D C a0 _ _ h (h + 1 + 1) n (dg_f x n) ((r2 h (by omega)).trans rw_at) r1 hn7 (fun t ht => wt_le hg dg_fr ht)) ⟨wi_72, wi_33, wi_74, by decide +kernel⟩ ⟨rfl, wi_73⟩ ⟨by decide, Nat.le_of_ble_eq_true rfl⟩ rfl hl.1 rfl (Nat.le_of_ble_eq_true rfl) ⟨show _ ≤ 70 by omega, show _ ≤ 4100 by omega⟩ d_Top_init_13 (fun w1 h1 H locs V hr => ?_)
  obtain ⟨f, gm, gc, R, rfl, hcl, hci, hR, hRb⟩ := hr
  have hq1 := (hcl.2.2.2.2.2.2.2.2.2 q (by omega) (by omega)).trans ((r2 q (by omega)).trans (rw_ne (by omega) hq))
  have hold : ∀ a, a < h → w1 a = w a := fun a ha => (hcl.2.2.2.2.2.2.2.2.2 a (by omega) (by omega)).trans ((r2 a (by omega)).trans (rw_ne (by omega) rfl))
  obtain ⟨P, hP⟩ : ∃ P, P = h + 8 + 3 * n := ⟨_, rfl⟩
  obtain ⟨N, hN⟩ : ∃ N, N = wt_t (dg_f x n) n n := ⟨_, rfl⟩
  have hN1 := dg_N0 hg
  rw [← hN] at hN1 hcl
  obtain ⟨hN0, hN128⟩ := hN1
  have V := rw_sz V (show _ = P by omega)
  have hqP : q < P := by omega
  generalize w1 = wc at *
  refine rw_putF Z V hnm (ci := 3) (Cn := R_Top) (Tb := F_Top) (Nf := 7) (ref := R_Top) (ty := (.object "CollectedGroup$Collector")) hq1 rfl in_Top t_Top t_Top_ok n_Top 0 (by decide) wi_153 rfl rfl rfl (by decide +kernel) (by rfl) (by rfl) (by exact Nat.le_of_ble_eq_true rfl) d_Top_init_16 (fun H locs V => ?_)
  refine nw_aload_n X d_Top_init_19 rfl (lv_at hl 0 rfl) ?_
  refine nw_iconst X 4 d_Top_init_20 (by decide) ?_
  refine rw_newq Z V (by decide) wi_105 (show _ ≤ 70 by omega) (show _ ≤ 4100 by omega) d_Top_init_21 (fun H V => ?_)
  refine rw_putF Z V hnm (ci := 3) (Cn := R_Top) (Tb := F_Top) (Nf := 7) (ref := R_Top) (ty := (.array (.object "CollectedGroup$Subgroup"))) (by repeat (first | exact rw_at | assumption | refine rw_ne (by omega) ?_)) rfl in_Top t_Top t_Top_ok n_Top 1 (by decide) wi_154 rfl rfl rfl (by decide +kernel) (by rfl) (by rfl) (by exact Nat.le_of_ble_eq_true rfl) d_Top_init_24 (fun H locs V => ?_)
  have htp := tp_0 (C := C) (h := h) (N := N) (wc := wc) (ob := (.inr (3, [.ref h, .null, .null, .null, .null, .null, .int 0]))) (ob' := (.inr (3, [.ref h, .ref P, .null, .null, .null, .null, .int 0]))) hqP
  refine nw_iconst X 0 d_Top_init_27 (by decide) ?_
  refine nw_istore_n X (lv' := [(2, _), (0, _), (1, _)]) d_Top_init_28 rfl hl (by decide) rfl (fun ls hl => ?_)
  have LP29 : ∀ (d k : Nat) (g : Nat → Option Nat) (w1 : rw_M) (H : Heap) (locs : List Loc) (ls : Array Slot), 4 - k < d → (k ≤ 4) → (tp_s C h P q N wc k g (.inr (3, [.ref h, .ref P, .null, .null, .null, .null, .int 0])) w1) → (∀ i, i < k → g i = some (P + 1 + 5 * i)) → rw_v D a0 w1 (P + 1 + 5 * k) s.heap H locs →  lv_has ls 3 [(0, .ref q), (2, .int (nI k))] →  W p l e (rw_r 3 70 4100) s m args below meth c H locs (30 + 5 * k) (1902 + 276 * k) Q (F0 m 29 ls []) := by
    intro d
    induction d with
    | zero => intro k g w1 H locs ls hd; exact absurd hd (Nat.not_lt_zero _)
    | succ d IH29 =>
      intro k g w1 H locs ls hd hk4 htp hg9 V hl
      have hcol := (htp.2.2.2 h (by omega) (by omega)).trans hcl.1
      refine nw_iload_n X d_Top_init_29 rfl (lv_at hl 1 rfl) ?_
      refine nw_iconst X 4 d_Top_init_30 (by decide) ?_
      refine nw_icmp_ge X (tgt := 57) d_Top_init_31 (by decide) (by omega) (by decide) (fun hk => ?_) (fun hk => ?_)
      · skip
        have hk9 : k = 4 := by omega
        subst hk9
        refine nw_aload_n X d_Top_init_57 rfl (lv_at hl 0 rfl) ?_
        refine rw_new Z V 2 rfl in_Sub t_Sub t_Sub_ok wi_105 wi_107 wi_37 [.null, .null, .null, .int 0] (by decide) (show _ ≤ 70 by omega) (show _ ≤ 4100 by omega) d_Top_init_58 (fun H V => ?_)
        refine nw_dup X d_Top_init_61 rfl ?_
        refine nw_aload_n X d_Top_init_62 rfl (lv_at hl 0 rfl) ?_
        refine rw_get Z V (ci := 3) (Cn := R_Top) (Tb := F_Top) (Nf := 7) (ref := R_Top) (rw_ne (by omega) htp.1) rfl in_Top 0 (by decide) wi_153 rfl (by rfl) d_Top_init_63 ?_
        refine rw_callI (n := 1) Z V (rm_Sub_init l D C a0 _ _ (P + 1 + 5 * 4) h N (.int (nI n)) (.ref (h + 2)) (.ref (h + 3)) (.ref (h + 3 + 1)) (.ref (h + 3 + 2)) (.ref (h + 3 + 3 + n)) (.ref (h + 3 + 4 + n)) rw_at (rw_ne (by omega) hcol) hN128 hN0) ⟨wi_108, wi_37, wi_110, by decide +kernel⟩ ⟨rfl, wi_109⟩ ⟨by decide, Nat.le_of_ble_eq_true rfl⟩ rfl hl.1 rfl (Nat.le_of_ble_eq_true rfl) ⟨show _ ≤ 70 by omega, show _ ≤ 4100 by omega⟩ d_Top_init_66 (fun w1 h1 H locs V hr => ?_)
        obtain ⟨rfl, r1, r2, r3, r4, r5, r6⟩ := hr
        have htp := tp_new htp hqP rfl r1 r2 r3 r4 r5 r6
        refine rw_putF Z V hnm (ci := 3) (Cn := R_Top) (Tb := F_Top) (Nf := 7) (ref := R_Top) (ty := (.object "CollectedGroup$Subgroup")) htp.1 rfl in_Top t_Top t_Top_ok n_Top 2 (by decide) wi_155 rfl rfl rfl (by decide +kernel) (by rfl) (by rfl) (by exact Nat.le_of_ble_eq_true rfl) d_Top_init_69 (fun H locs V => ?_)
        have htp := tp_ob (ob' := (.inr (3, [.ref h, .ref P, .ref (P + 21), .null, .null, .null, .int 0]))) htp hqP
        have hcol := (htp.2.2.2 h (by omega) (by omega)).trans hcl.1
        have V := rw_sz V (show _ = P + 1 + 5 * 5 by omega)
        refine nw_aload_n X d_Top_init_72 rfl (lv_at hl 0 rfl) ?_
        refine rw_new Z V 2 rfl in_Sub t_Sub t_Sub_ok wi_105 wi_107 wi_37 [.null, .null, .null, .int 0] (by decide) (show _ ≤ 70 by omega) (show _ ≤ 4100 by omega) d_Top_init_73 (fun H V => ?_)
        refine nw_dup X d_Top_init_76 rfl ?_
        refine nw_aload_n X d_Top_init_77 rfl (lv_at hl 0 rfl) ?_
        refine rw_get Z V (ci := 3) (Cn := R_Top) (Tb := F_Top) (Nf := 7) (ref := R_Top) (rw_ne (by omega) htp.1) rfl in_Top 0 (by decide) wi_153 rfl (by rfl) d_Top_init_78 ?_
        refine rw_callI (n := 1) Z V (rm_Sub_init l D C a0 _ _ (P + 1 + 5 * 5) h N (.int (nI n)) (.ref (h + 2)) (.ref (h + 3)) (.ref (h + 3 + 1)) (.ref (h + 3 + 2)) (.ref (h + 3 + 3 + n)) (.ref (h + 3 + 4 + n)) rw_at (rw_ne (by omega) hcol) hN128 hN0) ⟨wi_108, wi_37, wi_110, by decide +kernel⟩ ⟨rfl, wi_109⟩ ⟨by decide, Nat.le_of_ble_eq_true rfl⟩ rfl hl.1 rfl (Nat.le_of_ble_eq_true rfl) ⟨show _ ≤ 70 by omega, show _ ≤ 4100 by omega⟩ d_Top_init_81 (fun w1 h1 H locs V hr => ?_)
        obtain ⟨rfl, r1, r2, r3, r4, r5, r6⟩ := hr
        have htp := tp_new htp hqP rfl r1 r2 r3 r4 r5 r6
        refine rw_putF Z V hnm (ci := 3) (Cn := R_Top) (Tb := F_Top) (Nf := 7) (ref := R_Top) (ty := (.object "CollectedGroup$Subgroup")) htp.1 rfl in_Top t_Top t_Top_ok n_Top 3 (by decide) wi_156 rfl rfl rfl (by decide +kernel) (by rfl) (by rfl) (by exact Nat.le_of_ble_eq_true rfl) d_Top_init_84 (fun H locs V => ?_)
        have htp := tp_ob (ob' := (.inr (3, [.ref h, .ref P, .ref (P + 21), .ref (P + 26), .null, .null, .int 0]))) htp hqP
        have hcol := (htp.2.2.2 h (by omega) (by omega)).trans hcl.1
        have V := rw_sz V (show _ = P + 1 + 5 * 6 by omega)
        refine nw_aload_n X d_Top_init_87 rfl (lv_at hl 0 rfl) ?_
        refine rw_new Z V 2 rfl in_Sub t_Sub t_Sub_ok wi_105 wi_107 wi_37 [.null, .null, .null, .int 0] (by decide) (show _ ≤ 70 by omega) (show _ ≤ 4100 by omega) d_Top_init_88 (fun H V => ?_)
        refine nw_dup X d_Top_init_91 rfl ?_
        refine nw_aload_n X d_Top_init_92 rfl (lv_at hl 0 rfl) ?_
        refine rw_get Z V (ci := 3) (Cn := R_Top) (Tb := F_Top) (Nf := 7) (ref := R_Top) (rw_ne (by omega) htp.1) rfl in_Top 0 (by decide) wi_153 rfl (by rfl) d_Top_init_93 ?_
        refine rw_callI (n := 1) Z V (rm_Sub_init l D C a0 _ _ (P + 1 + 5 * 6) h N (.int (nI n)) (.ref (h + 2)) (.ref (h + 3)) (.ref (h + 3 + 1)) (.ref (h + 3 + 2)) (.ref (h + 3 + 3 + n)) (.ref (h + 3 + 4 + n)) rw_at (rw_ne (by omega) hcol) hN128 hN0) ⟨wi_108, wi_37, wi_110, by decide +kernel⟩ ⟨rfl, wi_109⟩ ⟨by decide, Nat.le_of_ble_eq_true rfl⟩ rfl hl.1 rfl (Nat.le_of_ble_eq_true rfl) ⟨show _ ≤ 70 by omega, show _ ≤ 4100 by omega⟩ d_Top_init_96 (fun w1 h1 H locs V hr => ?_)
        obtain ⟨rfl, r1, r2, r3, r4, r5, r6⟩ := hr
        have htp := tp_new htp hqP rfl r1 r2 r3 r4 r5 r6
        refine rw_putF Z V hnm (ci := 3) (Cn := R_Top) (Tb := F_Top) (Nf := 7) (ref := R_Top) (ty := (.object "CollectedGroup$Subgroup")) htp.1 rfl in_Top t_Top t_Top_ok n_Top 4 (by decide) wi_157 rfl rfl rfl (by decide +kernel) (by rfl) (by rfl) (by exact Nat.le_of_ble_eq_true rfl) d_Top_init_99 (fun H locs V => ?_)
        have htp := tp_ob (ob' := (.inr (3, [.ref h, .ref P, .ref (P + 21), .ref (P + 26), .ref (P + 31), .null, .int 0]))) htp hqP
        have hcol := (htp.2.2.2 h (by omega) (by omega)).trans hcl.1
        have V := rw_sz V (show _ = P + 36 by omega)
        refine nw_aload_n X d_Top_init_102 rfl (lv_at hl 0 rfl) ?_
        refine rw_new Z V 1 rfl in_Set t_Set t_Set_ok wi_150 wi_113 wi_38 [.null, .null, .int 0] (by decide) (show _ ≤ 70 by omega) (show _ ≤ 4100 by omega) d_Top_init_103 (fun H V => ?_)
        refine nw_dup X d_Top_init_106 rfl ?_
        refine nw_aload_n X d_Top_init_107 rfl (lv_at hl 0 rfl) ?_
        refine rw_get Z V (ci := 3) (Cn := R_Top) (Tb := F_Top) (Nf := 7) (ref := R_Top) (rw_ne (by omega) htp.1) rfl in_Top 0 (by decide) wi_153 rfl (by rfl) d_Top_init_108 ?_
        refine rw_callVi Z V (ci := 0) (rw_ne (by omega) hcol) rfl (rm_Col_elementCount l D C a0 _ _ h (.int (nI n)) (.int (nI N)) (.ref (h + 2)) (.ref (h + 3)) (.ref (h + 3 + 1)) (.ref (h + 3 + 2)) (.ref (h + 3 + 3 + n)) (.ref (h + 3 + 4 + n)) N rfl (rw_ne (by omega) hcol)) cs_Top_43 ⟨by decide, Nat.le_of_ble_eq_true rfl⟩ rfl hl.1 rfl (Nat.le_of_ble_eq_true rfl) ⟨show _ ≤ 70 by omega, show _ ≤ 4100 by omega⟩ d_Top_init_111 (fun r w1 h1 H locs V hr => ?_)
        obtain ⟨hr, rfl⟩ := hr
        cases hr
        refine rw_callI (n := 1) Z V (rm_Set_init l D C a0 _ _ (P + 36) N rw_at hN128) ⟨wi_152, wi_38, wi_120, by decide +kernel⟩ ⟨rfl, wi_119⟩ ⟨by decide, Nat.le_of_ble_eq_true rfl⟩ rfl hl.1 rfl (Nat.le_of_ble_eq_true rfl) ⟨show _ ≤ 70 by omega, show _ ≤ 4100 by omega⟩ d_Top_init_114 (fun w1 h1 H locs V hr => ?_)
        obtain ⟨rfl, k1, k2, k3, k4⟩ := hr
        have htp := tp_kin htp hqP k4
        refine rw_putF Z V hnm (ci := 3) (Cn := R_Top) (Tb := F_Top) (Nf := 7) (ref := R_Top) (ty := (.object "CollectedGroup$ElementSet")) htp.1 rfl in_Top t_Top t_Top_ok n_Top 5 (by decide) wi_158 rfl rfl rfl (by decide +kernel) (by rfl) (by rfl) (by exact Nat.le_of_ble_eq_true rfl) d_Top_init_117 (fun H locs V => ?_)
        have htp := tp_ob (ob' := (.inr (3, [.ref h, .ref P, .ref (P + 21), .ref (P + 26), .ref (P + 31), .ref (P + 36), .int 0]))) htp hqP
        refine nw_aload_n X d_Top_init_120 rfl (lv_at hl 0 rfl) ?_
        refine nw_iconst X 0 d_Top_init_121 (by decide) ?_
        refine rw_put Z V (ci := 3) (Cn := R_Top) (Tb := F_Top) (Nf := 7) (ref := R_Top) (ty := .boolean) htp.1 rfl in_Top t_Top t_Top_ok n_Top 6 (by decide) wi_159 rfl rfl (by decide +kernel) (by decide) (by decide) (by exact Nat.le_of_ble_eq_true rfl) d_Top_init_122 (fun H locs V => ?_)
        have htp := tp_ob (ob' := .inr (3, [.ref h, .ref P, .ref (P + 21), .ref (P + 26), .ref (P + 31), .ref (P + 36), .int (nI 0)])) htp hqP
        refine W.widen (k := 70) (n := 4100) (by omega) (by omega) ?_
        exact hret _ _ _ _ _ _ d_Top_init_125 V ⟨n, P, N, f, gm, gc, g, R, wc, _, hg, hP, hN, by show _ = _; omega, htp, hg9, rw_ne (by omega) (rw_ne (by omega) k1), rw_ne (by omega) (rw_ne (by omega) k2), rw_ne (by omega) (rw_ne (by omega) k3), hcl, hci, hR, hRb, fun a h1 h2 => (htp.2.2.2 a (by omega) h2).trans (hold a h1)⟩
      · skip
        refine nw_aload_n X d_Top_init_34 rfl (lv_at hl 0 rfl) ?_
        refine rw_get Z V (ci := 3) (Cn := R_Top) (Tb := F_Top) (Nf := 7) (ref := R_Top) htp.1 rfl in_Top 1 (by decide) wi_154 rfl (by rfl) d_Top_init_35 ?_
        refine nw_iload_n X d_Top_init_38 rfl (lv_at hl 1 rfl) ?_
        refine rw_new Z V 2 rfl in_Sub t_Sub t_Sub_ok wi_105 wi_107 wi_37 [.null, .null, .null, .int 0] (by decide) (show _ ≤ 70 by omega) (show _ ≤ 4100 by omega) d_Top_init_39 (fun H V => ?_)
        refine nw_dup X d_Top_init_42 rfl ?_
        refine nw_aload_n X d_Top_init_43 rfl (lv_at hl 0 rfl) ?_
        refine rw_get Z V (ci := 3) (Cn := R_Top) (Tb := F_Top) (Nf := 7) (ref := R_Top) (rw_ne (by omega) htp.1) rfl in_Top 0 (by decide) wi_153 rfl (by rfl) d_Top_init_44 ?_
        refine rw_callI (n := 1) Z V (rm_Sub_init l D C a0 _ _ (P + 1 + 5 * k) h N (.int (nI n)) (.ref (h + 2)) (.ref (h + 3)) (.ref (h + 3 + 1)) (.ref (h + 3 + 2)) (.ref (h + 3 + 3 + n)) (.ref (h + 3 + 4 + n)) rw_at (rw_ne (by omega) hcol) hN128 hN0) ⟨wi_108, wi_37, wi_110, by decide +kernel⟩ ⟨rfl, wi_109⟩ ⟨by decide, Nat.le_of_ble_eq_true rfl⟩ rfl hl.1 rfl (Nat.le_of_ble_eq_true rfl) ⟨show _ ≤ 70 by omega, show _ ≤ 4100 by omega⟩ d_Top_init_47 (fun w1 h1 H locs V hr => ?_)
        obtain ⟨rfl, r1, r2, r3, r4, r5, r6⟩ := hr
        have htp := tp_new htp hqP rfl r1 r2 r3 r4 r5 r6
        refine rw_aast Z V htp.2.1 r1 (by omega) (by decide) d_Top_init_50 (fun H locs V => ?_)
        refine nw_iinc X (lv' := [(2, _), (0, _)]) (k := 1) 1 d_Top_init_51 hl rfl (by decide) (by decide) rfl (fun ls hl => ?_)
        refine nw_goto X (tgt := 29) d_Top_init_54 (by decide) ?_
        refine W.widen (k := 30 + 5 * (k + 1)) (n := 1902 + 276 * (k + 1)) (by omega) (by omega) ?_
        exact IH29 (k + 1) (va_up g k (some (P + 1 + 5 * k))) _ _ _ _ (by omega) hk (tp_arr htp hqP) (fun i hi => by unfold va_up; by_cases e9 : i = k; rw [if_pos e9, e9]; rw [if_neg e9]; exact hg9 i (by omega)) (rw_sz V (by omega)) (lv_sub hl [1, 0] rfl)
  refine W.widen (k := 30 + 5 * 0) (n := 1902 + 276 * 0) (by omega) (by omega) ?_
  exact LP29 (4 + 1) 0 (fun _ => none) _ _ _ _ (by omega) (by omega) htp (fun i hi => absurd hi (Nat.not_lt_zero _)) (rw_sz V (by omega)) (lv_sub hl [1, 0] rfl)
