/-! The digits that the constructor takes. By program (wip/whole/gen/init2.py). -/
set_option maxHeartbeats 4000000 in
set_option maxRecDepth 20000 in
theorem rm_Top_isPrimeDigit (l : Launch) (D : va_G) (C : Nat → ClassId) (a0 : Nat) (w : rw_M) (h : Nat) (d9 : Nat) (hd9 : d9 < 16) : Met l y_Top_isPrimeDigit (hw_c y_Top_isPrimeDigit b_Top_isPrimeDigit 1 (some .boolean)) (rw_r 0 0 0) (va_Pc [.int (nI d9)] (rw_b D C a0 (w, h))) (va_Qi (fun r u9 => ∃ b, b < 2 ∧ r = nI b ∧ (fun b u9 => u9 = (w, h) ∧ (b = 1 ↔ dg_p d9)) b u9) (rw_b D C a0) (rw_A a0)) 0 0 (rw_A a0) := by
  refine rw_metz (post := (fun b u9 => u9 = (w, h) ∧ (b = 1 ↔ dg_p d9))) (by decide) (Nat.le_of_ble_eq_true rfl) ?_
  intro p e s m args below meth c ls Q Z hnm hret V hl
  have V : rw_v D a0 w h s.heap s.heap [] := V
  have X := Z.1
  have hl : lv_has ls 1 [(0, .int (nI d9))] := hl
  refine nw_iload_n X d_Top_isPrimeDigit_0 rfl (lv_at hl 0 rfl) ?_
  refine nw_iconst X 2 d_Top_isPrimeDigit_1 (by decide) ?_
  refine nw_icmp_eq X (tgt := 33) d_Top_isPrimeDigit_2 (by decide) (by omega) (by decide) (fun hc => ?_) (fun hc => ?_)
  · skip
    refine nw_iconst X 1 d_Top_isPrimeDigit_33 (by decide) ?_
    refine nw_goto X (tgt := 38) d_Top_isPrimeDigit_34 (by decide) ?_
    refine W.widen (k := 0) (n := 0) (by omega) (by omega) ?_
    exact hret 1 _ _ _ _ _ _ d_Top_isPrimeDigit_38 V (by decide) ⟨rfl, ⟨fun _ => by unfold dg_p; omega, fun _ => rfl⟩⟩
  · skip
    refine nw_iload_n X d_Top_isPrimeDigit_5 rfl (lv_at hl 0 rfl) ?_
    refine nw_iconst X 3 d_Top_isPrimeDigit_6 (by decide) ?_
    refine nw_icmp_eq X (tgt := 33) d_Top_isPrimeDigit_7 (by decide) (by omega) (by decide) (fun hc => ?_) (fun hc => ?_)
    · skip
      refine nw_iconst X 1 d_Top_isPrimeDigit_33 (by decide) ?_
      refine nw_goto X (tgt := 38) d_Top_isPrimeDigit_34 (by decide) ?_
      refine W.widen (k := 0) (n := 0) (by omega) (by omega) ?_
      exact hret 1 _ _ _ _ _ _ d_Top_isPrimeDigit_38 V (by decide) ⟨rfl, ⟨fun _ => by unfold dg_p; omega, fun _ => rfl⟩⟩
    · skip
      refine nw_iload_n X d_Top_isPrimeDigit_10 rfl (lv_at hl 0 rfl) ?_
      refine nw_iconst X 5 d_Top_isPrimeDigit_11 (by decide) ?_
      refine nw_icmp_eq X (tgt := 33) d_Top_isPrimeDigit_12 (by decide) (by omega) (by decide) (fun hc => ?_) (fun hc => ?_)
      · skip
        refine nw_iconst X 1 d_Top_isPrimeDigit_33 (by decide) ?_
        refine nw_goto X (tgt := 38) d_Top_isPrimeDigit_34 (by decide) ?_
        refine W.widen (k := 0) (n := 0) (by omega) (by omega) ?_
        exact hret 1 _ _ _ _ _ _ d_Top_isPrimeDigit_38 V (by decide) ⟨rfl, ⟨fun _ => by unfold dg_p; omega, fun _ => rfl⟩⟩
      · skip
        refine nw_iload_n X d_Top_isPrimeDigit_15 rfl (lv_at hl 0 rfl) ?_
        refine nw_bipush X 7 d_Top_isPrimeDigit_16 (by decide) ?_
        refine nw_icmp_eq X (tgt := 33) d_Top_isPrimeDigit_18 (by decide) (by omega) (by decide) (fun hc => ?_) (fun hc => ?_)
        · skip
          refine nw_iconst X 1 d_Top_isPrimeDigit_33 (by decide) ?_
          refine nw_goto X (tgt := 38) d_Top_isPrimeDigit_34 (by decide) ?_
          refine W.widen (k := 0) (n := 0) (by omega) (by omega) ?_
          exact hret 1 _ _ _ _ _ _ d_Top_isPrimeDigit_38 V (by decide) ⟨rfl, ⟨fun _ => by unfold dg_p; omega, fun _ => rfl⟩⟩
        · skip
          refine nw_iload_n X d_Top_isPrimeDigit_21 rfl (lv_at hl 0 rfl) ?_
          refine nw_bipush X 11 d_Top_isPrimeDigit_22 (by decide) ?_
          refine nw_icmp_eq X (tgt := 33) d_Top_isPrimeDigit_24 (by decide) (by omega) (by decide) (fun hc => ?_) (fun hc => ?_)
          · skip
            refine nw_iconst X 1 d_Top_isPrimeDigit_33 (by decide) ?_
            refine nw_goto X (tgt := 38) d_Top_isPrimeDigit_34 (by decide) ?_
            refine W.widen (k := 0) (n := 0) (by omega) (by omega) ?_
            exact hret 1 _ _ _ _ _ _ d_Top_isPrimeDigit_38 V (by decide) ⟨rfl, ⟨fun _ => by unfold dg_p; omega, fun _ => rfl⟩⟩
          · skip
            refine nw_iload_n X d_Top_isPrimeDigit_27 rfl (lv_at hl 0 rfl) ?_
            refine nw_bipush X 13 d_Top_isPrimeDigit_28 (by decide) ?_
            refine nw_icmp_ne X (tgt := 37) d_Top_isPrimeDigit_30 (by decide) (by omega) (by decide) (fun hc => ?_) (fun hc => ?_)
            · skip
              refine nw_iconst X 0 d_Top_isPrimeDigit_37 (by decide) ?_
              refine W.widen (k := 0) (n := 0) (by omega) (by omega) ?_
              exact hret 0 _ _ _ _ _ _ d_Top_isPrimeDigit_38 V (by decide) ⟨rfl, ⟨fun h9 => absurd h9 (by decide), fun h9 => by unfold dg_p at h9; omega⟩⟩
            · skip
              refine nw_iconst X 1 d_Top_isPrimeDigit_33 (by decide) ?_
              refine nw_goto X (tgt := 38) d_Top_isPrimeDigit_34 (by decide) ?_
              refine W.widen (k := 0) (n := 0) (by omega) (by omega) ?_
              exact hret 1 _ _ _ _ _ _ d_Top_isPrimeDigit_38 V (by decide) ⟨rfl, ⟨fun _ => by unfold dg_p; omega, fun _ => rfl⟩⟩
set_option maxHeartbeats 4000000 in
set_option maxRecDepth 20000 in
theorem rm_Arr_copyOf (l : Launch) (D : va_G) (C : Nat → ClassId) (a0 : Nat) (w : rw_M) (h : Nat) (q n : Nat) (f : Nat → Nat) (hq : w q = some (zz_i (C 0) 7 f)) (hn : n ≤ 7) (hf : ∀ j, n ≤ j → f j = 0) : Met l y_Arr_copyOf (hw_c y_Arr_copyOf b_Arr_copyOf 3 (some (.array .int))) (rw_r 1 1 7) (va_Pc [.ref q, .int (nI n)] (rw_b D C a0 (w, h))) (va_Qr (fun u9 => u9.2 = h ∧ u9.1.2 = h + 1 ∧ u9.1.1 h = some (zz_i (C 0) n f) ∧ ∀ a, a < h → u9.1.1 a = w a) (rw_B D C a0) (rw_A a0)) 1 7 (rw_A a0) := by
  refine rw_metr (post := (fun u9 => u9.2 = h ∧ u9.1.2 = h + 1 ∧ u9.1.1 h = some (zz_i (C 0) n f) ∧ ∀ a, a < h → u9.1.1 a = w a)) (by decide) (Nat.le_of_ble_eq_true rfl) ?_
  intro p e s m args below meth c ls Q Z hnm hret V hl
  have V : rw_v D a0 w h s.heap s.heap [] := V
  have X := Z.1
  have hl : lv_has ls 3 [(0, .ref q), (1, .int (nI n))] := hl
  have hqh := rw_lt V hq
  refine nw_iload_n X d_Arr_copyOf_0 rfl (lv_at hl 1 rfl) ?_
  refine nw_aload_n X d_Arr_copyOf_1 rfl (lv_at hl 0 rfl) ?_
  refine rw_alen Z V (by repeat (first | exact rw_at | assumption | refine rw_ne (by omega) ?_)) d_Arr_copyOf_2 ?_
  refine nw_icmp_ne X (tgt := 14) d_Arr_copyOf_3 (by decide) (by omega) (by decide) (fun hc => ?_) (fun hc => ?_)
  · skip
    refine nw_iload_n X d_Arr_copyOf_14 rfl (lv_at hl 1 rfl) ?_
    refine rw_newi Z V (by omega) (show _ ≤ 1 by omega) (show _ ≤ 7 by omega) d_Arr_copyOf_15 (fun H V => ?_)
    refine nw_astore_n X (lv' := [(2, _), (0, _), (1, _)]) d_Arr_copyOf_17 rfl hl (by decide) rfl (fun ls hl => ?_)
    refine nw_aload_n X d_Arr_copyOf_18 rfl (lv_at hl 1 rfl) ?_
    refine nw_iconst X 0 d_Arr_copyOf_19 (by decide) ?_
    refine nw_aload_n X d_Arr_copyOf_20 rfl (lv_at hl 0 rfl) ?_
    refine nw_iconst X 0 d_Arr_copyOf_21 (by decide) ?_
    refine nw_aload_n X d_Arr_copyOf_22 rfl (lv_at hl 1 rfl) ?_
    refine rw_alen Z V (by repeat (first | exact rw_at | assumption | refine rw_ne (by omega) ?_)) d_Arr_copyOf_23 ?_
    refine nw_iload_n X d_Arr_copyOf_24 rfl (lv_at hl 2 rfl) ?_
    refine va_mmin X.1.1 X.1.2.1 (by rw [X.1.2.2.1]; exact hl.1.symm) X.1.2.2.2.1 (X.1.2.2.2.2 _ wi_66) (X.1.2.2.2.2 _ wi_67) (X.1.2.2.2.2 _ wi_35) (X.1.2.2.2.2 _ wi_68) (by decide) (Nat.le_of_ble_eq_true rfl) (show _ ≤ 1 by omega) (show _ ≤ 7 by omega) d_Arr_copyOf_25 ?_
    rw [if_pos ((nI_ltI (show n < 2147483648 by omega) (by decide)).mpr (show n < 7 by omega))]
    refine rw_copy Z V (by repeat (first | exact rw_at | assumption | refine rw_ne (by omega) ?_)) (by repeat (first | exact rw_at | assumption | refine rw_ne (by omega) ?_)) wi_69 wi_71 wi_70 wi_36 (by omega) (by omega) (by omega) hl.1 (by decide) (Nat.le_of_ble_eq_true rfl) d_Arr_copyOf_28 (fun H locs V => ?_)
    rw [show (fun j => if j < n then f j else 0) = f from funext fun j => by by_cases h9 : j < n; rw [if_pos h9]; rw [if_neg h9, hf j (by omega)]] at V
    refine nw_aload_n X d_Arr_copyOf_31 rfl (lv_at hl 0 rfl) ?_
    refine W.widen (k := 1) (n := 7) (by omega) (by omega) ?_
    exact hret _ _ _ _ _ _ _ d_Arr_copyOf_32 V ⟨rfl, rfl, by repeat (first | exact rw_at | assumption | refine rw_ne (by omega) ?_), fun a h1 => by repeat (first | rfl | refine rw_ne (by omega) ?_)⟩
  · skip
    subst hc
    refine nw_aload_n X d_Arr_copyOf_6 rfl (lv_at hl 0 rfl) ?_
    refine rw_clone Z V (by repeat (first | exact rw_at | assumption | refine rw_ne (by omega) ?_)) wi_59 hl.1 (by decide) (Nat.le_of_ble_eq_true rfl) (show _ ≤ 1 by omega) (show _ ≤ 7 by omega) d_Arr_copyOf_7 (fun H V => ?_)
    refine rw_cast Z V (by repeat (first | exact rw_at | assumption | refine rw_ne (by omega) ?_)) wi_65 d_Arr_copyOf_10 ?_
    refine W.widen (k := 1) (n := 7) (by omega) (by omega) ?_
    exact hret _ _ _ _ _ _ _ d_Arr_copyOf_13 V ⟨rfl, rfl, by repeat (first | exact rw_at | assumption | refine rw_ne (by omega) ?_), fun a h1 => by repeat (first | rfl | refine rw_ne (by omega) ?_)⟩
set_option maxHeartbeats 4000000 in
set_option maxRecDepth 20000 in
theorem rm_Top_primeDigits (l : Launch) (D : va_G) (C : Nat → ClassId) (a0 : Nat) (w : rw_M) (h : Nat) (x : Int32) : Met l y_Top_primeDigits (hw_c y_Top_primeDigits b_Top_primeDigits 6 (some (.array .int))) (rw_r 2 2 14) (va_Pc [.int x] (rw_b D C a0 (w, h))) (va_Qr (fun u9 => ∃ n, dg_g x n ∧ u9.2 = h + 1 ∧ u9.1.2 = h + 2 ∧ u9.1.1 (h + 1) = some (zz_i (C 0) n (dg_f x n)) ∧ ∀ a, a < h → u9.1.1 a = w a) (rw_B D C a0) (rw_A a0)) 2 14 (rw_A a0) := by
  refine rw_metr (post := (fun u9 => ∃ n, dg_g x n ∧ u9.2 = h + 1 ∧ u9.1.2 = h + 2 ∧ u9.1.1 (h + 1) = some (zz_i (C 0) n (dg_f x n)) ∧ ∀ a, a < h → u9.1.1 a = w a)) (by decide) (Nat.le_of_ble_eq_true rfl) ?_
  intro p e s m args below meth c ls Q Z hnm hret V hl
  have V : rw_v D a0 w h s.heap s.heap [] := V
  have X := Z.1
  have hl : lv_has ls 6 [(0, .int x)] := hl
  refine nw_bipush X 7 d_Top_primeDigits_0 (by decide) ?_
  refine rw_newi Z V (by decide) (show _ ≤ 2 by omega) (show _ ≤ 14 by omega) d_Top_primeDigits_2 (fun H V => ?_)
  refine nw_astore_n X (lv' := [(1, _), (0, _)]) d_Top_primeDigits_4 rfl hl (by decide) rfl (fun ls hl => ?_)
  refine nw_iconst X 0 d_Top_primeDigits_5 (by decide) ?_
  refine nw_istore_n X (lv' := [(2, _), (1, _), (0, _)]) d_Top_primeDigits_6 rfl hl (by decide) rfl (fun ls hl => ?_)
  refine nw_iconst X 1 d_Top_primeDigits_7 (by decide) ?_
  refine nw_istore_n X (lv' := [(3, _), (2, _), (1, _), (0, _)]) d_Top_primeDigits_8 rfl hl (by decide) rfl (fun ls hl => ?_)
  refine nw_iconst X 0 d_Top_primeDigits_9 (by decide) ?_
  refine nw_istore X (lv' := [(4, _), (3, _), (2, _), (1, _), (0, _)]) d_Top_primeDigits_10 hl (by decide) rfl (fun ls hl => ?_)
  have LP12 : ∀ (d k : Nat)  (w1 : rw_M) (H : Heap) (locs : List Loc) (ls : Array Slot), 7 - k < d → (k ≤ 7) → (∀ j, j < k → dg_t x j) → (w1 h = some (zz_i (C 0) 7 (dg_f x k))) → (∀ a, a < h → w1 a = w a) → rw_v D a0 w1 (h + 1) s.heap H locs →  lv_has ls 6 [(0, .int x), (1, .ref h), (2, .int (nI k)), (3, .int (nI (dg_q x k))), (4, .int (nI k))] →  W p l e (rw_r 2 2 14) s m args below meth c H locs (0 + 1) (0 + 7) Q (F0 m 12 ls []) := by
    intro d
    induction d with
    | zero => intro k w1 H locs ls hd; exact absurd hd (Nat.not_lt_zero _)
    | succ d IH12 =>
      intro k w1 H locs ls hd hk7 ht hw1 hfr V hl
      have hq1 : dg_q x k ≤ 128 := by
        cases k with
        | zero => show 1 ≤ 128; omega
        | succ j => exact (ht j (by omega)).2
      have hd16 := dg_r16 x k
      have hqr : dg_q x k * dg_r x k ≤ 128 * 16 := Nat.mul_le_mul hq1 (by omega)
      refine nw_iload X d_Top_primeDigits_12 (lv_at hl 4 rfl) ?_
      refine nw_bipush X 7 d_Top_primeDigits_14 (by decide) ?_
      refine nw_icmp_ge X (tgt := 71) d_Top_primeDigits_16 (by decide) (by omega) (by decide) (fun hc => ?_) (fun hk => ?_)
      · skip
        have hg9 : dg_g x k := ⟨hk7, ht, Or.inl (by omega)⟩
        refine nw_aload_n X d_Top_primeDigits_71 rfl (lv_at hl 1 rfl) ?_
        refine nw_iload_n X d_Top_primeDigits_72 rfl (lv_at hl 2 rfl) ?_
        refine rw_callR (n := 2) Z V (rm_Arr_copyOf l D C a0 _ _ h k (dg_f x k) hw1 hk7 (fun j hj => if_neg (by omega))) ⟨wi_56, wi_34, wi_58, by decide +kernel⟩ wi_57 ⟨by decide, Nat.le_of_ble_eq_true rfl⟩ rfl hl.1 rfl (Nat.le_of_ble_eq_true rfl) ⟨show _ ≤ 2 by omega, show _ ≤ 14 by omega⟩ d_Top_primeDigits_73 (fun r w1 h1 H locs V hr => ?_)
        obtain ⟨rfl, rfl, r1, r2⟩ := hr
        refine W.widen (k := 2) (n := 14) (by omega) (by omega) ?_
        exact hret _ _ _ _ _ _ _ d_Top_primeDigits_76 V ⟨k, hg9, rfl, rfl, r1, fun a ha => (r2 a (by omega)).trans (hfr a ha)⟩
      · skip
        refine nw_iload_n X d_Top_primeDigits_19 rfl (lv_at hl 0 rfl) ?_
        refine nw_iconst X 4 d_Top_primeDigits_20 (by decide) ?_
        refine nw_iload X d_Top_primeDigits_21 (lv_at hl 4 rfl) ?_
        refine nw_imul X d_Top_primeDigits_23 ?_
        refine lv_iushr X.1.1 X.1.2.1 d_Top_primeDigits_24 rfl ?_
        refine nw_bipush X 15 d_Top_primeDigits_25 (by decide) ?_
        refine lv_iand X.1.1 X.1.2.1 d_Top_primeDigits_27 ?_
        rw [dg_ush x hk]
        refine nw_istore X (lv' := [(5, _), (0, _), (1, _), (2, _), (3, _), (4, _)]) d_Top_primeDigits_28 hl (by decide) rfl (fun ls hl => ?_)
        refine nw_iload X d_Top_primeDigits_30 (lv_at hl 0 rfl) ?_
        refine rw_callS (n := 1) Z V (rm_Top_isPrimeDigit l D C a0 _ _ (dg_r x k) hd16) ⟨wi_53, wi_32, wi_55, by decide +kernel⟩ wi_54 ⟨by decide, Nat.le_of_ble_eq_true rfl⟩ rfl hl.1 rfl (Nat.le_of_ble_eq_true rfl) ⟨show _ ≤ 2 by omega, show _ ≤ 14 by omega⟩ d_Top_primeDigits_32 (fun r w1 h1 H locs V hr => ?_)
        obtain ⟨b9, hb9, rfl, hr, hb1⟩ := hr
        cases hr
        refine nw_if_eq X (tgt := 71) d_Top_primeDigits_35 (by decide) (by omega) (fun hc => ?_) (fun hc => ?_)
        · skip
          have hg9 : dg_g x k := ⟨hk7, ht, Or.inr fun q9 => by have := hb1.mpr q9.1; omega⟩
          refine nw_aload_n X d_Top_primeDigits_71 rfl (lv_at hl 2 rfl) ?_
          refine nw_iload_n X d_Top_primeDigits_72 rfl (lv_at hl 3 rfl) ?_
          refine rw_callR (n := 2) Z V (rm_Arr_copyOf l D C a0 _ _ h k (dg_f x k) hw1 hk7 (fun j hj => if_neg (by omega))) ⟨wi_56, wi_34, wi_58, by decide +kernel⟩ wi_57 ⟨by decide, Nat.le_of_ble_eq_true rfl⟩ rfl hl.1 rfl (Nat.le_of_ble_eq_true rfl) ⟨show _ ≤ 2 by omega, show _ ≤ 14 by omega⟩ d_Top_primeDigits_73 (fun r w1 h1 H locs V hr => ?_)
          obtain ⟨rfl, rfl, r1, r2⟩ := hr
          refine W.widen (k := 2) (n := 14) (by omega) (by omega) ?_
          exact hret _ _ _ _ _ _ _ d_Top_primeDigits_76 V ⟨k, hg9, rfl, rfl, r1, fun a ha => (r2 a (by omega)).trans (hfr a ha)⟩
        · skip
          have hp9 := hb1.mp (by omega)
          refine nw_iload_n X d_Top_primeDigits_38 rfl (lv_at hl 4 rfl) ?_
          refine nw_iload X d_Top_primeDigits_39 (lv_at hl 0 rfl) ?_
          refine nw_imul X d_Top_primeDigits_41 ?_
          refine nw_sipush X 128 d_Top_primeDigits_42 (by decide) ?_
          refine nw_icmp_le X (tgt := 51) d_Top_primeDigits_45 (by decide) (by omega) (by decide) (fun hc1 => ?_) (fun hc1 => ?_)
          · skip
            have ht9 : dg_t x k := ⟨hp9, hc1⟩
            refine nw_aload_n X d_Top_primeDigits_51 rfl (lv_at hl 2 rfl) ?_
            refine nw_iload X d_Top_primeDigits_52 (lv_at hl 5 rfl) ?_
            refine nw_iload X d_Top_primeDigits_54 (lv_at hl 0 rfl) ?_
            refine rw_iast Z V (by repeat (first | exact rw_at | assumption | refine rw_ne (by omega) ?_)) (by omega) (by decide) d_Top_primeDigits_56 (fun H locs V => ?_)
            refine nw_iload_n X d_Top_primeDigits_57 rfl (lv_at hl 4 rfl) ?_
            refine nw_iload X d_Top_primeDigits_58 (lv_at hl 0 rfl) ?_
            refine nw_imul X d_Top_primeDigits_60 ?_
            refine nw_istore_n X (lv' := [(3, _), (5, _), (0, _), (1, _), (2, _), (4, _)]) d_Top_primeDigits_61 rfl hl (by decide) rfl (fun ls hl => ?_)
            refine nw_iinc X (lv' := [(2, _), (3, _), (5, _), (0, _), (1, _), (4, _)]) (k := 4) 1 d_Top_primeDigits_62 hl rfl (by decide) (by decide) rfl (fun ls hl => ?_)
            refine nw_iinc X (lv' := [(4, _), (2, _), (3, _), (5, _), (0, _), (1, _)]) (k := 5) 1 d_Top_primeDigits_65 hl rfl (by decide) (by decide) rfl (fun ls hl => ?_)
            refine nw_goto X (tgt := 12) d_Top_primeDigits_68 (by decide) ?_
            exact IH12 (k + 1) _ _ _ _ (by omega) (by omega) (fun j hj => by by_cases e9 : j = k; rw [e9]; exact ht9; exact ht j (by omega)) (by rw [← dg_up]; exact rw_at) (fun a ha => rw_ne (by omega) (hfr a ha)) (rw_sz V (by omega)) (lv_sub hl [4, 5, 1, 2, 0] rfl)
          · skip
            have hg9 : dg_g x k := ⟨hk7, ht, Or.inr fun q9 => by have := q9.2; change dg_q x k * dg_r x k ≤ 128 at this; omega⟩
            refine nw_goto X (tgt := 71) d_Top_primeDigits_48 (by decide) ?_
            refine nw_aload_n X d_Top_primeDigits_71 rfl (lv_at hl 2 rfl) ?_
            refine nw_iload_n X d_Top_primeDigits_72 rfl (lv_at hl 3 rfl) ?_
            refine rw_callR (n := 2) Z V (rm_Arr_copyOf l D C a0 _ _ h k (dg_f x k) hw1 hk7 (fun j hj => if_neg (by omega))) ⟨wi_56, wi_34, wi_58, by decide +kernel⟩ wi_57 ⟨by decide, Nat.le_of_ble_eq_true rfl⟩ rfl hl.1 rfl (Nat.le_of_ble_eq_true rfl) ⟨show _ ≤ 2 by omega, show _ ≤ 14 by omega⟩ d_Top_primeDigits_73 (fun r w1 h1 H locs V hr => ?_)
            obtain ⟨rfl, rfl, r1, r2⟩ := hr
            refine W.widen (k := 2) (n := 14) (by omega) (by omega) ?_
            exact hret _ _ _ _ _ _ _ d_Top_primeDigits_76 V ⟨k, hg9, rfl, rfl, r1, fun a ha => (r2 a (by omega)).trans (hfr a ha)⟩
  exact LP12 (7 + 1) 0 _ _ _ _ (by omega) (by omega) (fun j hj => absurd hj (Nat.not_lt_zero _)) (by rw [← dg_f0]; exact rw_at) (fun a ha => rw_ne (by omega) rfl) (rw_sz V (by omega)) (lv_sub hl [4, 3, 2, 1, 0] rfl)
