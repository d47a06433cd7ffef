/-! The cases of the law's switch. By program (wip/whole/gen/law.py). -/
/-- what stays all the time -/
def lw_G (p : Program) (s : State) (m : MethodId) (args : Array Value) (c : Code) (z : zz_Z) (b L : Nat) (xs : Nat → Int32) (A : Nat → Prop) : Prop :=
  hw_x p c s m args code 4 R_Law (zz_D z) (zz_T z) ∧ (∀ k, zz_k (zz_n z) k → zz_O z k) ∧ va_X b L xs s s.heap ∧ b < s.heap.size ∧ ¬ A b ∧ L ≤ 2049
abbrev lw_V (z : zz_Z) (A : Nat → Prop) (σ : hw_M) (H0 H : Heap) (locs : List Loc) : Prop := hw_v (zz_D z) (zz_E z) (zz_A z) (zz_O z) A σ H0 H locs
section
variable {p : Program} {l : Launch} {e : Env} {R : Room} {s : State} {m : MethodId} {args : Array Value} {below : List Frame} {meth : Method} {c : Code} {H : Heap} {locs : List Loc} {cells slots : Nat} {Q : State → Prop}
variable {pc : Nat} {ls : Array Slot} {rest : List Value} {z : zz_Z} {A : Nat → Prop} {σ : hw_M} {b L : Nat} {xs : Nat → Int32}
theorem lw_ld (G : lw_G p s m args c z b L xs A) (V : lw_V z A σ s.heap H locs) {i : Nat} (hi : i < L) (hdg : decode code pc = .ok (.iaload, 1))
    (kk : W p l e R s m args below meth c H locs cells slots Q (F0 m (pc + 1) ls (.int (xs i) :: rest))) : W p l e R s m args below meth c H locs cells slots Q (F0 m pc ls (.int (nI i) :: .ref b :: rest)) := by
  have hL := G.2.2.2.2.2
  refine va_sld G.1.1.1 G.1.1.2.1 G.2.2.1 G.2.2.2.1 G.2.2.2.2.1 V.2.2 (vp_in_nI hi (by omega)) hdg ?_
  rw [nI_clamp (show i < 2 ^ 31 by omega)]
  exact kk
theorem lw_len (G : lw_G p s m args c z b L xs A) (V : lw_V z A σ s.heap H locs) (hdg : decode code pc = .ok (.arraylength, 1))
    (kk : W p l e R s m args below meth c H locs cells slots Q (F0 m (pc + 1) ls (.int (nI L) :: rest))) : W p l e R s m args below meth c H locs cells slots Q (F0 m pc ls (.ref b :: rest)) :=
  va_slen G.1.1.1 G.1.1.2.1 G.2.2.1 G.2.2.2.1 G.2.2.2.2.1 V.2.2 hdg kk
end
set_option maxHeartbeats 4000000 in
set_option maxRecDepth 20000 in
theorem lw_c0 {p : Program} {l : Launch} {e : Env} {s : State} {m : MethodId} {args : Array Value} {below : List Frame} {meth : Method} {c : Code} {H : Heap} {locs : List Loc} {cells slots : Nat} {Q : State → Prop} {ls : Array Slot} {z : zz_Z} {A : Nat → Prop} {σ : hw_M} {b L i : Nat} {xs : Nat → Int32}
    (G : lw_G p s m args c z b L xs A) (V : lw_V z A σ s.heap H locs) (hJ : lw_J z σ) (hi : i + 4 ≤ L) (hcs : cells ≤ 600000 ∧ slots ≤ 7302250) (hl : lv_has ls 4 [(0, .ref b), (1, .ref (zz_A z (0, 0))), (2, .ref (zz_A z (20, 0))), (3, .int (nI i))])
    (K : ∀ (σ' : hw_M) (H' : Heap) (locs' : List Loc), lw_V z A σ' s.heap H' locs' → lw_J z σ' → W p l e room_1 s m args below meth c H' locs' cells slots Q (F0 m 769 ls [])) :
    W p l e room_1 s m args below meth c H locs cells slots Q (F0 m 156 ls []) := by
  have X := G.1
  have hz := G.2.1
  obtain ⟨S, hC, hM, hf, hSl⟩ := id hJ
  refine nw_aload_n X d_Law_law_156 rfl (lv_at hl 1 rfl) ?_
  refine hw_calli X V (hz (0, 0) rfl) rfl rfl (cm_Top_generators l z σ hz S hC) cs_Law_21 (by decide) rfl hl.1 rfl (Nat.le_of_ble_eq_true rfl) hcs d_Law_law_157 (fun r1 σ1 H locs V hr => ?_)
  obtain ⟨hσ1, ha1⟩ := hr
  rw [hσ1] at V
  clear hσ1
  refine nw_aload_n X d_Law_law_160 rfl (lv_at hl 2 rfl) ?_
  refine hw_calli X V (hz (20, 0) rfl) rfl rfl (cm_Mod_generators l z σ hz hM.1) cs_Law_25 (by decide) rfl hl.1 rfl (Nat.le_of_ble_eq_true rfl) hcs d_Law_law_161 (fun r2 σ2 H locs V hr => ?_)
  obtain ⟨hσ2, ha2⟩ := hr
  rw [hσ2] at V
  clear hσ2
  exact lv_icmp_eq X.1.1 X.1.2.1 (tgt := 769) d_Law_law_164 (by decide) (fun _ => K _ _ _ V hJ) (fun hne => absurd (ha1.trans ha2.symm) hne)
set_option maxHeartbeats 4000000 in
set_option maxRecDepth 20000 in
theorem lw_c1 {p : Program} {l : Launch} {e : Env} {s : State} {m : MethodId} {args : Array Value} {below : List Frame} {meth : Method} {c : Code} {H : Heap} {locs : List Loc} {cells slots : Nat} {Q : State → Prop} {ls : Array Slot} {z : zz_Z} {A : Nat → Prop} {σ : hw_M} {b L i : Nat} {xs : Nat → Int32}
    (G : lw_G p s m args c z b L xs A) (V : lw_V z A σ s.heap H locs) (hJ : lw_J z σ) (hi : i + 4 ≤ L) (hcs : cells ≤ 600000 ∧ slots ≤ 7302250) (hl : lv_has ls 4 [(0, .ref b), (1, .ref (zz_A z (0, 0))), (2, .ref (zz_A z (20, 0))), (3, .int (nI i))])
    (K : ∀ (σ' : hw_M) (H' : Heap) (locs' : List Loc), lw_V z A σ' s.heap H' locs' → lw_J z σ' → W p l e room_1 s m args below meth c H' locs' cells slots Q (F0 m 769 ls [])) :
    W p l e room_1 s m args below meth c H locs cells slots Q (F0 m 169 ls []) := by
  have X := G.1
  have hz := G.2.1
  obtain ⟨S, hC, hM, hf, hSl⟩ := id hJ
  refine nw_aload_n X d_Law_law_169 rfl (lv_at hl 1 rfl) ?_
  refine hw_calli X V (hz (0, 0) rfl) rfl rfl (cm_Top_size l z σ hz S hC) cs_Law_26 (by decide) rfl hl.1 rfl (Nat.le_of_ble_eq_true rfl) hcs d_Law_law_170 (fun r1 σ1 H locs V hr => ?_)
  obtain ⟨hσ1, ha1⟩ := hr
  rw [hσ1] at V
  clear hσ1
  refine nw_aload_n X d_Law_law_173 rfl (lv_at hl 2 rfl) ?_
  refine hw_calli X V (hz (20, 0) rfl) rfl rfl (cm_Mod_size l z σ hz hM.1) cs_Law_29 (by decide) rfl hl.1 rfl (Nat.le_of_ble_eq_true rfl) hcs d_Law_law_174 (fun r2 σ2 H locs V hr => ?_)
  obtain ⟨hσ2, ha2⟩ := hr
  rw [hσ2] at V
  clear hσ2
  exact lv_icmp_eq X.1.1 X.1.2.1 (tgt := 769) d_Law_law_177 (by decide) (fun _ => K _ _ _ V hJ) (fun hne => absurd (ha1.trans ha2.symm) hne)
set_option maxHeartbeats 4000000 in
set_option maxRecDepth 20000 in
theorem lw_c2 {p : Program} {l : Launch} {e : Env} {s : State} {m : MethodId} {args : Array Value} {below : List Frame} {meth : Method} {c : Code} {H : Heap} {locs : List Loc} {cells slots : Nat} {Q : State → Prop} {ls : Array Slot} {z : zz_Z} {A : Nat → Prop} {σ : hw_M} {b L i : Nat} {xs : Nat → Int32}
    (G : lw_G p s m args c z b L xs A) (V : lw_V z A σ s.heap H locs) (hJ : lw_J z σ) (hi : i + 4 ≤ L) (hcs : cells ≤ 600000 ∧ slots ≤ 7302250) (hl : lv_has ls 4 [(0, .ref b), (1, .ref (zz_A z (0, 0))), (2, .ref (zz_A z (20, 0))), (3, .int (nI i))])
    (K : ∀ (σ' : hw_M) (H' : Heap) (locs' : List Loc), lw_V z A σ' s.heap H' locs' → lw_J z σ' → W p l e room_1 s m args below meth c H' locs' cells slots Q (F0 m 769 ls [])) :
    W p l e room_1 s m args below meth c H locs cells slots Q (F0 m 182 ls []) := by
  have X := G.1
  have hz := G.2.1
  obtain ⟨S, hC, hM, hf, hSl⟩ := id hJ
  refine nw_aload_n X d_Law_law_182 rfl (lv_at hl 1 rfl) ?_
  refine nw_aload_n X d_Law_law_183 rfl (lv_at hl 0 rfl) ?_
  refine nw_iload_n X d_Law_law_184 rfl (lv_at hl 3 rfl) ?_
  refine nw_iconst X 1 d_Law_law_185 (by decide) ?_
  refine nw_iadd X d_Law_law_186 ?_
  refine lw_ld G V (by omega) d_Law_law_187 ?_
  refine hw_calli X V (hz (0, 0) rfl) rfl rfl (cm_Top_generator l z σ hz S hC (xs (i + 1))) cs_Law_30 (by decide) rfl hl.1 rfl (Nat.le_of_ble_eq_true rfl) hcs d_Law_law_188 (fun r1 σ1 H locs V hr => ?_)
  obtain ⟨hσ1, ha1⟩ := hr
  rw [hσ1] at V
  clear hσ1
  refine nw_aload_n X d_Law_law_191 rfl (lv_at hl 2 rfl) ?_
  refine nw_aload_n X d_Law_law_192 rfl (lv_at hl 0 rfl) ?_
  refine nw_iload_n X d_Law_law_193 rfl (lv_at hl 3 rfl) ?_
  refine nw_iconst X 1 d_Law_law_194 (by decide) ?_
  refine nw_iadd X d_Law_law_195 ?_
  refine lw_ld G V (by omega) d_Law_law_196 ?_
  refine hw_calli X V (hz (20, 0) rfl) rfl rfl (cm_Mod_generator l z σ hz _ _ _ _ S hM (xs (i + 1))) cs_Law_34 (by decide) rfl hl.1 rfl (Nat.le_of_ble_eq_true rfl) hcs d_Law_law_197 (fun r2 σ2 H locs V hr => ?_)
  obtain ⟨hσ2, ha2⟩ := hr
  rw [hσ2] at V
  clear hσ2
  exact lv_icmp_eq X.1.1 X.1.2.1 (tgt := 769) d_Law_law_200 (by decide) (fun _ => K _ _ _ V hJ) (fun hne => absurd (an_u ha1 ha2 (fun _ => rfl)) hne)
set_option maxHeartbeats 4000000 in
set_option maxRecDepth 20000 in
theorem lw_c3 {p : Program} {l : Launch} {e : Env} {s : State} {m : MethodId} {args : Array Value} {below : List Frame} {meth : Method} {c : Code} {H : Heap} {locs : List Loc} {cells slots : Nat} {Q : State → Prop} {ls : Array Slot} {z : zz_Z} {A : Nat → Prop} {σ : hw_M} {b L i : Nat} {xs : Nat → Int32}
    (G : lw_G p s m args c z b L xs A) (V : lw_V z A σ s.heap H locs) (hJ : lw_J z σ) (hi : i + 4 ≤ L) (hcs : cells ≤ 600000 ∧ slots ≤ 7302250) (hl : lv_has ls 4 [(0, .ref b), (1, .ref (zz_A z (0, 0))), (2, .ref (zz_A z (20, 0))), (3, .int (nI i))])
    (K : ∀ (σ' : hw_M) (H' : Heap) (locs' : List Loc), lw_V z A σ' s.heap H' locs' → lw_J z σ' → W p l e room_1 s m args below meth c H' locs' cells slots Q (F0 m 769 ls [])) :
    W p l e room_1 s m args below meth c H locs cells slots Q (F0 m 205 ls []) := by
  have X := G.1
  have hz := G.2.1
  obtain ⟨S, hC, hM, hf, hSl⟩ := id hJ
  refine nw_aload_n X d_Law_law_205 rfl (lv_at hl 1 rfl) ?_
  refine nw_aload_n X d_Law_law_206 rfl (lv_at hl 0 rfl) ?_
  refine nw_iload_n X d_Law_law_207 rfl (lv_at hl 3 rfl) ?_
  refine nw_iconst X 1 d_Law_law_208 (by decide) ?_
  refine nw_iadd X d_Law_law_209 ?_
  refine lw_ld G V (by omega) d_Law_law_210 ?_
  refine nw_aload_n X d_Law_law_211 rfl (lv_at hl 0 rfl) ?_
  refine nw_iload_n X d_Law_law_212 rfl (lv_at hl 3 rfl) ?_
  refine nw_iconst X 2 d_Law_law_213 (by decide) ?_
  refine nw_iadd X d_Law_law_214 ?_
  refine lw_ld G V (by omega) d_Law_law_215 ?_
  refine hw_calli X V (hz (0, 0) rfl) rfl rfl (cm_Top_power l z σ hz S hC (xs (i + 1)) (xs (i + 2))) cs_Law_35 (by decide) rfl hl.1 rfl (Nat.le_of_ble_eq_true rfl) hcs d_Law_law_216 (fun r1 σ1 H locs V hr => ?_)
  obtain ⟨b1, -, rfl, hC1, hb1, h4, hq1⟩ := hr
  have hM1 := ms_mv hM (fun u hu => hq1 u (fun e9 => by rw [e9] at hu; exact absurd hu (by decide)))
  have e20 : σ1 (20, 0) 6 = σ (0, 0) 6 := by rw [hq1 (20, 0) (hw_ne (by decide))]; exact hf
  refine nw_aload_n X d_Law_law_219 rfl (lv_at hl 2 rfl) ?_
  refine nw_aload_n X d_Law_law_220 rfl (lv_at hl 0 rfl) ?_
  refine nw_iload_n X d_Law_law_221 rfl (lv_at hl 3 rfl) ?_
  refine nw_iconst X 1 d_Law_law_222 (by decide) ?_
  refine nw_iadd X d_Law_law_223 ?_
  refine lw_ld G V (by omega) d_Law_law_224 ?_
  refine nw_aload_n X d_Law_law_225 rfl (lv_at hl 0 rfl) ?_
  refine nw_iload_n X d_Law_law_226 rfl (lv_at hl 3 rfl) ?_
  refine nw_iconst X 2 d_Law_law_227 (by decide) ?_
  refine nw_iadd X d_Law_law_228 ?_
  refine lw_ld G V (by omega) d_Law_law_229 ?_
  refine hw_calli X V (hz (20, 0) rfl) rfl rfl (cm_Mod_power l z σ1 hz _ _ _ _ S hM1 (xs (i + 1)) (xs (i + 2))) cs_Law_39 (by decide) rfl hl.1 rfl (Nat.le_of_ble_eq_true rfl) hcs d_Law_law_230 (fun r2 σ2 H locs V hr => ?_)
  obtain ⟨b2, -, rfl, hb2, hM2, hq2⟩ := hr
  rw [e20] at hb2 hM2
  exact lv_icmp_eq X.1.1 X.1.2.1 (tgt := 769) d_Law_law_233 (by decide) (fun _ => K _ _ _ V (lw_pw hC1 h4 hq1 hM2 hq2 hf)) (fun hne => absurd (congrArg nI (hb1.trans hb2.symm)) hne)
set_option maxHeartbeats 4000000 in
set_option maxRecDepth 20000 in
theorem lw_c4 {p : Program} {l : Launch} {e : Env} {s : State} {m : MethodId} {args : Array Value} {below : List Frame} {meth : Method} {c : Code} {H : Heap} {locs : List Loc} {cells slots : Nat} {Q : State → Prop} {ls : Array Slot} {z : zz_Z} {A : Nat → Prop} {σ : hw_M} {b L i : Nat} {xs : Nat → Int32}
    (G : lw_G p s m args c z b L xs A) (V : lw_V z A σ s.heap H locs) (hJ : lw_J z σ) (hi : i + 4 ≤ L) (hcs : cells ≤ 600000 ∧ slots ≤ 7302250) (hl : lv_has ls 4 [(0, .ref b), (1, .ref (zz_A z (0, 0))), (2, .ref (zz_A z (20, 0))), (3, .int (nI i))])
    (K : ∀ (σ' : hw_M) (H' : Heap) (locs' : List Loc), lw_V z A σ' s.heap H' locs' → lw_J z σ' → W p l e room_1 s m args below meth c H' locs' cells slots Q (F0 m 769 ls [])) :
    W p l e room_1 s m args below meth c H locs cells slots Q (F0 m 238 ls []) := by
  have X := G.1
  have hz := G.2.1
  obtain ⟨S, hC, hM, hf, hSl⟩ := id hJ
  refine nw_aload_n X d_Law_law_238 rfl (lv_at hl 1 rfl) ?_
  refine nw_aload_n X d_Law_law_239 rfl (lv_at hl 0 rfl) ?_
  refine nw_iload_n X d_Law_law_240 rfl (lv_at hl 3 rfl) ?_
  refine nw_iconst X 1 d_Law_law_241 (by decide) ?_
  refine nw_iadd X d_Law_law_242 ?_
  refine lw_ld G V (by omega) d_Law_law_243 ?_
  refine nw_aload_n X d_Law_law_244 rfl (lv_at hl 0 rfl) ?_
  refine nw_iload_n X d_Law_law_245 rfl (lv_at hl 3 rfl) ?_
  refine nw_iconst X 2 d_Law_law_246 (by decide) ?_
  refine nw_iadd X d_Law_law_247 ?_
  refine lw_ld G V (by omega) d_Law_law_248 ?_
  refine nw_aload_n X d_Law_law_249 rfl (lv_at hl 0 rfl) ?_
  refine nw_iload_n X d_Law_law_250 rfl (lv_at hl 3 rfl) ?_
  refine nw_iconst X 3 d_Law_law_251 (by decide) ?_
  refine nw_iadd X d_Law_law_252 ?_
  refine lw_ld G V (by omega) d_Law_law_253 ?_
  refine hw_calli X V (hz (0, 0) rfl) rfl rfl (cm_Top_conjugate l z σ hz S hC (xs (i + 1)) (xs (i + 2)) (xs (i + 3))) cs_Law_40 (by decide) rfl hl.1 rfl (Nat.le_of_ble_eq_true rfl) hcs d_Law_law_254 (fun r1 σ1 H locs V hr => ?_)
  obtain ⟨b1, -, rfl, hC1, hb1, h6, hq1⟩ := hr
  have hM1 := ms_mv hM (fun u hu => hq1 u (fun e9 => by omega))
  have e20 : σ1 (20, 0) 6 = σ (0, 0) 6 := by rw [hq1 (20, 0) (by decide)]; exact hf
  refine nw_aload_n X d_Law_law_257 rfl (lv_at hl 2 rfl) ?_
  refine nw_aload_n X d_Law_law_258 rfl (lv_at hl 0 rfl) ?_
  refine nw_iload_n X d_Law_law_259 rfl (lv_at hl 3 rfl) ?_
  refine nw_iconst X 1 d_Law_law_260 (by decide) ?_
  refine nw_iadd X d_Law_law_261 ?_
  refine lw_ld G V (by omega) d_Law_law_262 ?_
  refine nw_aload_n X d_Law_law_263 rfl (lv_at hl 0 rfl) ?_
  refine nw_iload_n X d_Law_law_264 rfl (lv_at hl 3 rfl) ?_
  refine nw_iconst X 2 d_Law_law_265 (by decide) ?_
  refine nw_iadd X d_Law_law_266 ?_
  refine lw_ld G V (by omega) d_Law_law_267 ?_
  refine nw_aload_n X d_Law_law_268 rfl (lv_at hl 0 rfl) ?_
  refine nw_iload_n X d_Law_law_269 rfl (lv_at hl 3 rfl) ?_
  refine nw_iconst X 3 d_Law_law_270 (by decide) ?_
  refine nw_iadd X d_Law_law_271 ?_
  refine lw_ld G V (by omega) d_Law_law_272 ?_
  refine hw_calli X V (hz (20, 0) rfl) rfl rfl (cm_Mod_conjugate l z σ1 hz _ _ _ _ S hM1 (xs (i + 1)) (xs (i + 2)) (xs (i + 3))) cs_Law_44 (by decide) rfl hl.1 rfl (Nat.le_of_ble_eq_true rfl) hcs d_Law_law_273 (fun r2 σ2 H locs V hr => ?_)
  obtain ⟨b2, -, rfl, hb2, hM2, hq2⟩ := hr
  rw [e20] at hb2 hM2
  exact lv_icmp_eq X.1.1 X.1.2.1 (tgt := 769) d_Law_law_276 (by decide) (fun _ => K _ _ _ V (lw_cg hC1 h6 hq1 hM2 hq2 hf)) (fun hne => absurd (congrArg nI (hb1.trans hb2.symm)) hne)
set_option maxHeartbeats 4000000 in
set_option maxRecDepth 20000 in
theorem lw_c5 {p : Program} {l : Launch} {e : Env} {s : State} {m : MethodId} {args : Array Value} {below : List Frame} {meth : Method} {c : Code} {H : Heap} {locs : List Loc} {cells slots : Nat} {Q : State → Prop} {ls : Array Slot} {z : zz_Z} {A : Nat → Prop} {σ : hw_M} {b L i : Nat} {xs : Nat → Int32}
    (G : lw_G p s m args c z b L xs A) (V : lw_V z A σ s.heap H locs) (hJ : lw_J z σ) (hi : i + 4 ≤ L) (hcs : cells ≤ 600000 ∧ slots ≤ 7302250) (hl : lv_has ls 4 [(0, .ref b), (1, .ref (zz_A z (0, 0))), (2, .ref (zz_A z (20, 0))), (3, .int (nI i))])
    (K : ∀ (σ' : hw_M) (H' : Heap) (locs' : List Loc), lw_V z A σ' s.heap H' locs' → lw_J z σ' → W p l e room_1 s m args below meth c H' locs' cells slots Q (F0 m 769 ls [])) :
    W p l e room_1 s m args below meth c H locs cells slots Q (F0 m 281 ls []) := by
  have X := G.1
  have hz := G.2.1
  obtain ⟨S, hC, hM, hf, hSl⟩ := id hJ
  refine nw_aload_n X d_Law_law_281 rfl (lv_at hl 1 rfl) ?_
  refine hw_calli X V (hz (0, 0) rfl) rfl rfl (cm_Top_fix l z σ hz S hC) cs_Law_45 (by decide) rfl hl.1 rfl (Nat.le_of_ble_eq_true rfl) hcs d_Law_law_282 (fun r1 σ1 H locs V hr => ?_)
  obtain ⟨b1, -, rfl, hb1, hC1, hfl1, hq1, hq9⟩ := hr
  have hM1 := ms_mv hM hq9
  have e20 : σ1 (20, 0) 6 = σ (0, 0) 6 := by rw [hq9 (20, 0) (by decide)]; exact hf
  refine nw_aload_n X d_Law_law_285 rfl (lv_at hl 2 rfl) ?_
  refine hw_calli X V (hz (20, 0) rfl) rfl rfl (cm_Mod_fix l z σ1 hz _ _ _ _ S hM1) cs_Law_49 (by decide) rfl hl.1 rfl (Nat.le_of_ble_eq_true rfl) hcs d_Law_law_286 (fun r2 σ2 H locs V hr => ?_)
  obtain ⟨b2, -, rfl, hb2, hM2, hfl2, hq2⟩ := hr
  rw [e20] at hb2 hM2
  have hbb : b1 = b2 := hb1.trans hb2.symm
  exact lv_icmp_eq X.1.1 X.1.2.1 (tgt := 769) d_Law_law_289 (by decide) (fun _ => K _ _ _ V (lw_fx hC1 (hfl1.trans hbb) hq1 hM2 hfl2 hq2)) (fun hne => absurd (congrArg nI hbb) hne)
set_option maxHeartbeats 4000000 in
set_option maxRecDepth 20000 in
theorem lw_c6 {p : Program} {l : Launch} {e : Env} {s : State} {m : MethodId} {args : Array Value} {below : List Frame} {meth : Method} {c : Code} {H : Heap} {locs : List Loc} {cells slots : Nat} {Q : State → Prop} {ls : Array Slot} {z : zz_Z} {A : Nat → Prop} {σ : hw_M} {b L i : Nat} {xs : Nat → Int32}
    (G : lw_G p s m args c z b L xs A) (V : lw_V z A σ s.heap H locs) (hJ : lw_J z σ) (hi : i + 4 ≤ L) (hcs : cells ≤ 600000 ∧ slots ≤ 7302250) (hl : lv_has ls 4 [(0, .ref b), (1, .ref (zz_A z (0, 0))), (2, .ref (zz_A z (20, 0))), (3, .int (nI i))])
    (K : ∀ (σ' : hw_M) (H' : Heap) (locs' : List Loc), lw_V z A σ' s.heap H' locs' → lw_J z σ' → W p l e room_1 s m args below meth c H' locs' cells slots Q (F0 m 769 ls [])) :
    W p l e room_1 s m args below meth c H locs cells slots Q (F0 m 294 ls []) := by
  have X := G.1
  have hz := G.2.1
  obtain ⟨S, hC, hM, hf, hSl⟩ := id hJ
  refine nw_aload_n X d_Law_law_294 rfl (lv_at hl 1 rfl) ?_
  refine hw_callv X V (hz (0, 0) rfl) rfl rfl (cm_Top_release l z σ hz S hC) cs_Law_50 (by decide) rfl hl.1 rfl (Nat.le_of_ble_eq_true rfl) hcs d_Law_law_295 (fun σ1 H locs V hr => ?_)
  obtain ⟨hC1, rfl⟩ := hr
  have hM1 := ms_mv (σ1 := hw_up σ (0, 0) 6 0) hM (fun u hu => hw_up_k _ _ _ (fun e9 => by rw [e9] at hu; exact absurd hu (by decide)))
  refine nw_aload_n X d_Law_law_298 rfl (lv_at hl 2 rfl) ?_
  refine hw_callv X V (hz (20, 0) rfl) rfl rfl (cm_Mod_release l z _ hz _ _ _ _ S hM1) cs_Law_53 (by decide) rfl hl.1 rfl (Nat.le_of_ble_eq_true rfl) hcs d_Law_law_299 (fun σ2 H locs V hr => ?_)
  obtain ⟨hM2, rfl⟩ := hr
  refine nw_goto X (tgt := 769) d_Law_law_302 (by decide) ?_
  exact K _ _ _ V (lw_rel hC1 hM2)
set_option maxHeartbeats 4000000 in
set_option maxRecDepth 20000 in
theorem lw_c7 {p : Program} {l : Launch} {e : Env} {s : State} {m : MethodId} {args : Array Value} {below : List Frame} {meth : Method} {c : Code} {H : Heap} {locs : List Loc} {cells slots : Nat} {Q : State → Prop} {ls : Array Slot} {z : zz_Z} {A : Nat → Prop} {σ : hw_M} {b L i : Nat} {xs : Nat → Int32}
    (G : lw_G p s m args c z b L xs A) (V : lw_V z A σ s.heap H locs) (hJ : lw_J z σ) (hi : i + 4 ≤ L) (hcs : cells ≤ 600000 ∧ slots ≤ 7302250) (hl : lv_has ls 4 [(0, .ref b), (1, .ref (zz_A z (0, 0))), (2, .ref (zz_A z (20, 0))), (3, .int (nI i))])
    (K : ∀ (σ' : hw_M) (H' : Heap) (locs' : List Loc), lw_V z A σ' s.heap H' locs' → lw_J z σ' → W p l e room_1 s m args below meth c H' locs' cells slots Q (F0 m 769 ls [])) :
    W p l e room_1 s m args below meth c H locs cells slots Q (F0 m 305 ls []) := by
  have X := G.1
  have hz := G.2.1
  obtain ⟨S, hC, hM, hf, hSl⟩ := id hJ
  refine nw_aload_n X d_Law_law_305 rfl (lv_at hl 1 rfl) ?_
  refine hw_calli X V (hz (0, 0) rfl) rfl rfl (cm_Top_fixed l z σ hz S hC) cs_Law_54 (by decide) rfl hl.1 rfl (Nat.le_of_ble_eq_true rfl) hcs d_Law_law_306 (fun r1 σ1 H locs V hr => ?_)
  obtain ⟨b1, -, rfl, hσ1, hb1⟩ := hr
  rw [hσ1] at V
  clear hσ1
  refine nw_aload_n X d_Law_law_309 rfl (lv_at hl 2 rfl) ?_
  refine hw_calli X V (hz (20, 0) rfl) rfl rfl (cm_Mod_fixed l z σ hz _ _ _ _ S hM) cs_Law_57 (by decide) rfl hl.1 rfl (Nat.le_of_ble_eq_true rfl) hcs d_Law_law_310 (fun r2 σ2 H locs V hr => ?_)
  obtain ⟨b2, -, rfl, hσ2, hb2⟩ := hr
  rw [hσ2] at V
  clear hσ2
  exact lv_icmp_eq X.1.1 X.1.2.1 (tgt := 769) d_Law_law_313 (by decide) (fun _ => K _ _ _ V hJ) (fun hne => absurd (congrArg nI (hb1.trans (hf.symm.trans hb2.symm))) hne)
set_option maxHeartbeats 4000000 in
set_option maxRecDepth 20000 in
theorem lw_c8 {p : Program} {l : Launch} {e : Env} {s : State} {m : MethodId} {args : Array Value} {below : List Frame} {meth : Method} {c : Code} {H : Heap} {locs : List Loc} {cells slots : Nat} {Q : State → Prop} {ls : Array Slot} {z : zz_Z} {A : Nat → Prop} {σ : hw_M} {b L i : Nat} {xs : Nat → Int32}
    (G : lw_G p s m args c z b L xs A) (V : lw_V z A σ s.heap H locs) (hJ : lw_J z σ) (hi : i + 4 ≤ L) (hcs : cells ≤ 600000 ∧ slots ≤ 7302250) (hl : lv_has ls 4 [(0, .ref b), (1, .ref (zz_A z (0, 0))), (2, .ref (zz_A z (20, 0))), (3, .int (nI i))])
    (K : ∀ (σ' : hw_M) (H' : Heap) (locs' : List Loc), lw_V z A σ' s.heap H' locs' → lw_J z σ' → W p l e room_1 s m args below meth c H' locs' cells slots Q (F0 m 769 ls [])) :
    W p l e room_1 s m args below meth c H locs cells slots Q (F0 m 318 ls []) := by
  have X := G.1
  have hz := G.2.1
  obtain ⟨S, hC, hM, hf, hSl⟩ := id hJ
  refine nw_aload_n X d_Law_law_318 rfl (lv_at hl 1 rfl) ?_
  refine nw_aload_n X d_Law_law_319 rfl (lv_at hl 0 rfl) ?_
  refine nw_iload_n X d_Law_law_320 rfl (lv_at hl 3 rfl) ?_
  refine nw_iconst X 1 d_Law_law_321 (by decide) ?_
  refine nw_iadd X d_Law_law_322 ?_
  refine lw_ld G V (by omega) d_Law_law_323 ?_
  refine nw_aload_n X d_Law_law_324 rfl (lv_at hl 0 rfl) ?_
  refine nw_iload_n X d_Law_law_325 rfl (lv_at hl 3 rfl) ?_
  refine nw_iconst X 2 d_Law_law_326 (by decide) ?_
  refine nw_iadd X d_Law_law_327 ?_
  refine lw_ld G V (by omega) d_Law_law_328 ?_
  refine hw_calli X V (hz (0, 0) rfl) rfl rfl (cm_Top_product l z σ hz S hC (xs (i + 1)) (xs (i + 2))) cs_Law_58 (by decide) rfl hl.1 rfl (Nat.le_of_ble_eq_true rfl) hcs d_Law_law_329 (fun r1 σ1 H locs V hr => ?_)
  obtain ⟨hσ1, ha1⟩ := hr
  rw [hσ1] at V
  clear hσ1
  refine nw_aload_n X d_Law_law_332 rfl (lv_at hl 2 rfl) ?_
  refine nw_aload_n X d_Law_law_333 rfl (lv_at hl 0 rfl) ?_
  refine nw_iload_n X d_Law_law_334 rfl (lv_at hl 3 rfl) ?_
  refine nw_iconst X 1 d_Law_law_335 (by decide) ?_
  refine nw_iadd X d_Law_law_336 ?_
  refine lw_ld G V (by omega) d_Law_law_337 ?_
  refine nw_aload_n X d_Law_law_338 rfl (lv_at hl 0 rfl) ?_
  refine nw_iload_n X d_Law_law_339 rfl (lv_at hl 3 rfl) ?_
  refine nw_iconst X 2 d_Law_law_340 (by decide) ?_
  refine nw_iadd X d_Law_law_341 ?_
  refine lw_ld G V (by omega) d_Law_law_342 ?_
  refine hw_calli X V (hz (20, 0) rfl) rfl rfl (cm_Mod_product l z σ hz _ _ _ _ S hM (xs (i + 1)) (xs (i + 2))) cs_Law_62 (by decide) rfl hl.1 rfl (Nat.le_of_ble_eq_true rfl) hcs d_Law_law_343 (fun r2 σ2 H locs V hr => ?_)
  obtain ⟨hσ2, ha2⟩ := hr
  rw [hσ2] at V
  clear hσ2
  rw [hf] at ha2
  exact lv_icmp_eq X.1.1 X.1.2.1 (tgt := 769) d_Law_law_346 (by decide) (fun _ => K _ _ _ V hJ) (fun hne => absurd (an_u ha1 ha2 (fun _ => rfl)) hne)
set_option maxHeartbeats 4000000 in
set_option maxRecDepth 20000 in
theorem lw_c9 {p : Program} {l : Launch} {e : Env} {s : State} {m : MethodId} {args : Array Value} {below : List Frame} {meth : Method} {c : Code} {H : Heap} {locs : List Loc} {cells slots : Nat} {Q : State → Prop} {ls : Array Slot} {z : zz_Z} {A : Nat → Prop} {σ : hw_M} {b L i : Nat} {xs : Nat → Int32}
    (G : lw_G p s m args c z b L xs A) (V : lw_V z A σ s.heap H locs) (hJ : lw_J z σ) (hi : i + 4 ≤ L) (hcs : cells ≤ 600000 ∧ slots ≤ 7302250) (hl : lv_has ls 4 [(0, .ref b), (1, .ref (zz_A z (0, 0))), (2, .ref (zz_A z (20, 0))), (3, .int (nI i))])
    (K : ∀ (σ' : hw_M) (H' : Heap) (locs' : List Loc), lw_V z A σ' s.heap H' locs' → lw_J z σ' → W p l e room_1 s m args below meth c H' locs' cells slots Q (F0 m 769 ls [])) :
    W p l e room_1 s m args below meth c H locs cells slots Q (F0 m 351 ls []) := by
  have X := G.1
  have hz := G.2.1
  obtain ⟨S, hC, hM, hf, hSl⟩ := id hJ
  refine nw_aload_n X d_Law_law_351 rfl (lv_at hl 1 rfl) ?_
  refine nw_aload_n X d_Law_law_352 rfl (lv_at hl 0 rfl) ?_
  refine nw_iload_n X d_Law_law_353 rfl (lv_at hl 3 rfl) ?_
  refine nw_iconst X 1 d_Law_law_354 (by decide) ?_
  refine nw_iadd X d_Law_law_355 ?_
  refine lw_ld G V (by omega) d_Law_law_356 ?_
  refine nw_aload_n X d_Law_law_357 rfl (lv_at hl 0 rfl) ?_
  refine nw_iload_n X d_Law_law_358 rfl (lv_at hl 3 rfl) ?_
  refine nw_iconst X 2 d_Law_law_359 (by decide) ?_
  refine nw_iadd X d_Law_law_360 ?_
  refine lw_ld G V (by omega) d_Law_law_361 ?_
  refine hw_calli X V (hz (0, 0) rfl) rfl rfl (cm_Top_times l z σ hz S hC (xs (i + 1)) (xs (i + 2))) cs_Law_63 (by decide) rfl hl.1 rfl (Nat.le_of_ble_eq_true rfl) hcs d_Law_law_362 (fun r1 σ1 H locs V hr => ?_)
  obtain ⟨hσ1, ha1⟩ := hr
  rw [hσ1] at V
  clear hσ1
  refine nw_aload_n X d_Law_law_365 rfl (lv_at hl 2 rfl) ?_
  refine nw_aload_n X d_Law_law_366 rfl (lv_at hl 0 rfl) ?_
  refine nw_iload_n X d_Law_law_367 rfl (lv_at hl 3 rfl) ?_
  refine nw_iconst X 1 d_Law_law_368 (by decide) ?_
  refine nw_iadd X d_Law_law_369 ?_
  refine lw_ld G V (by omega) d_Law_law_370 ?_
  refine nw_aload_n X d_Law_law_371 rfl (lv_at hl 0 rfl) ?_
  refine nw_iload_n X d_Law_law_372 rfl (lv_at hl 3 rfl) ?_
  refine nw_iconst X 2 d_Law_law_373 (by decide) ?_
  refine nw_iadd X d_Law_law_374 ?_
  refine lw_ld G V (by omega) d_Law_law_375 ?_
  refine hw_calli X V (hz (20, 0) rfl) rfl rfl (cm_Mod_times l z σ hz _ _ _ _ S hM (xs (i + 1)) (xs (i + 2))) cs_Law_66 (by decide) rfl hl.1 rfl (Nat.le_of_ble_eq_true rfl) hcs d_Law_law_376 (fun r2 σ2 H locs V hr => ?_)
  obtain ⟨hσ2, ha2⟩ := hr
  rw [hσ2] at V
  clear hσ2
  rw [hf] at ha2
  exact lv_icmp_eq X.1.1 X.1.2.1 (tgt := 769) d_Law_law_379 (by decide) (fun _ => K _ _ _ V hJ) (fun hne => absurd (lw_tm ha1 ha2) hne)
set_option maxHeartbeats 4000000 in
set_option maxRecDepth 20000 in
theorem lw_c10 {p : Program} {l : Launch} {e : Env} {s : State} {m : MethodId} {args : Array Value} {below : List Frame} {meth : Method} {c : Code} {H : Heap} {locs : List Loc} {cells slots : Nat} {Q : State → Prop} {ls : Array Slot} {z : zz_Z} {A : Nat → Prop} {σ : hw_M} {b L i : Nat} {xs : Nat → Int32}
    (G : lw_G p s m args c z b L xs A) (V : lw_V z A σ s.heap H locs) (hJ : lw_J z σ) (hi : i + 4 ≤ L) (hcs : cells ≤ 600000 ∧ slots ≤ 7302250) (hl : lv_has ls 4 [(0, .ref b), (1, .ref (zz_A z (0, 0))), (2, .ref (zz_A z (20, 0))), (3, .int (nI i))])
    (K : ∀ (σ' : hw_M) (H' : Heap) (locs' : List Loc), lw_V z A σ' s.heap H' locs' → lw_J z σ' → W p l e room_1 s m args below meth c H' locs' cells slots Q (F0 m 769 ls [])) :
    W p l e room_1 s m args below meth c H locs cells slots Q (F0 m 384 ls []) := by
  have X := G.1
  have hz := G.2.1
  obtain ⟨S, hC, hM, hf, hSl⟩ := id hJ
  refine nw_aload_n X d_Law_law_384 rfl (lv_at hl 1 rfl) ?_
  refine nw_aload_n X d_Law_law_385 rfl (lv_at hl 0 rfl) ?_
  refine nw_iload_n X d_Law_law_386 rfl (lv_at hl 3 rfl) ?_
  refine nw_iconst X 1 d_Law_law_387 (by decide) ?_
  refine nw_iadd X d_Law_law_388 ?_
  refine lw_ld G V (by omega) d_Law_law_389 ?_
  refine nw_aload_n X d_Law_law_390 rfl (lv_at hl 0 rfl) ?_
  refine nw_iload_n X d_Law_law_391 rfl (lv_at hl 3 rfl) ?_
  refine nw_iconst X 2 d_Law_law_392 (by decide) ?_
  refine nw_iadd X d_Law_law_393 ?_
  refine lw_ld G V (by omega) d_Law_law_394 ?_
  refine hw_calli X V (hz (0, 0) rfl) rfl rfl (cm_Top_conjugated l z σ hz S hC (xs (i + 1)) (xs (i + 2))) cs_Law_67 (by decide) rfl hl.1 rfl (Nat.le_of_ble_eq_true rfl) hcs d_Law_law_395 (fun r1 σ1 H locs V hr => ?_)
  obtain ⟨hσ1, ha1⟩ := hr
  rw [hσ1] at V
  clear hσ1
  refine nw_aload_n X d_Law_law_398 rfl (lv_at hl 2 rfl) ?_
  refine nw_aload_n X d_Law_law_399 rfl (lv_at hl 0 rfl) ?_
  refine nw_iload_n X d_Law_law_400 rfl (lv_at hl 3 rfl) ?_
  refine nw_iconst X 1 d_Law_law_401 (by decide) ?_
  refine nw_iadd X d_Law_law_402 ?_
  refine lw_ld G V (by omega) d_Law_law_403 ?_
  refine nw_aload_n X d_Law_law_404 rfl (lv_at hl 0 rfl) ?_
  refine nw_iload_n X d_Law_law_405 rfl (lv_at hl 3 rfl) ?_
  refine nw_iconst X 2 d_Law_law_406 (by decide) ?_
  refine nw_iadd X d_Law_law_407 ?_
  refine lw_ld G V (by omega) d_Law_law_408 ?_
  refine hw_calli X V (hz (20, 0) rfl) rfl rfl (cm_Mod_conjugated l z σ hz _ _ _ _ S hM (xs (i + 1)) (xs (i + 2))) cs_Law_70 (by decide) rfl hl.1 rfl (Nat.le_of_ble_eq_true rfl) hcs d_Law_law_409 (fun r2 σ2 H locs V hr => ?_)
  obtain ⟨hσ2, ha2⟩ := hr
  rw [hσ2] at V
  clear hσ2
  rw [hf] at ha2
  exact lv_icmp_eq X.1.1 X.1.2.1 (tgt := 769) d_Law_law_412 (by decide) (fun _ => K _ _ _ V hJ) (fun hne => absurd (an_u ha1 ha2 (fun _ => rfl)) hne)
set_option maxHeartbeats 4000000 in
set_option maxRecDepth 20000 in
theorem lw_c11 {p : Program} {l : Launch} {e : Env} {s : State} {m : MethodId} {args : Array Value} {below : List Frame} {meth : Method} {c : Code} {H : Heap} {locs : List Loc} {cells slots : Nat} {Q : State → Prop} {ls : Array Slot} {z : zz_Z} {A : Nat → Prop} {σ : hw_M} {b L i : Nat} {xs : Nat → Int32}
    (G : lw_G p s m args c z b L xs A) (V : lw_V z A σ s.heap H locs) (hJ : lw_J z σ) (hi : i + 4 ≤ L) (hcs : cells ≤ 600000 ∧ slots ≤ 7302250) (hl : lv_has ls 4 [(0, .ref b), (1, .ref (zz_A z (0, 0))), (2, .ref (zz_A z (20, 0))), (3, .int (nI i))])
    (K : ∀ (σ' : hw_M) (H' : Heap) (locs' : List Loc), lw_V z A σ' s.heap H' locs' → lw_J z σ' → W p l e room_1 s m args below meth c H' locs' cells slots Q (F0 m 769 ls [])) :
    W p l e room_1 s m args below meth c H locs cells slots Q (F0 m 417 ls []) := by
  have X := G.1
  have hz := G.2.1
  obtain ⟨S, hC, hM, hf, hSl⟩ := id hJ
  refine nw_aload_n X d_Law_law_417 rfl (lv_at hl 1 rfl) ?_
  refine nw_aload_n X d_Law_law_418 rfl (lv_at hl 0 rfl) ?_
  refine nw_iload_n X d_Law_law_419 rfl (lv_at hl 3 rfl) ?_
  refine nw_iconst X 1 d_Law_law_420 (by decide) ?_
  refine nw_iadd X d_Law_law_421 ?_
  refine lw_ld G V (by omega) d_Law_law_422 ?_
  refine nw_aload_n X d_Law_law_423 rfl (lv_at hl 0 rfl) ?_
  refine nw_iload_n X d_Law_law_424 rfl (lv_at hl 3 rfl) ?_
  refine nw_iconst X 2 d_Law_law_425 (by decide) ?_
  refine nw_iadd X d_Law_law_426 ?_
  refine lw_ld G V (by omega) d_Law_law_427 ?_
  refine hw_calli X V (hz (0, 0) rfl) rfl rfl (cm_Top_commutator l z σ hz S hC (xs (i + 1)) (xs (i + 2))) cs_Law_71 (by decide) rfl hl.1 rfl (Nat.le_of_ble_eq_true rfl) hcs d_Law_law_428 (fun r1 σ1 H locs V hr => ?_)
  obtain ⟨hσ1, ha1⟩ := hr
  rw [hσ1] at V
  clear hσ1
  refine nw_aload_n X d_Law_law_431 rfl (lv_at hl 2 rfl) ?_
  refine nw_aload_n X d_Law_law_432 rfl (lv_at hl 0 rfl) ?_
  refine nw_iload_n X d_Law_law_433 rfl (lv_at hl 3 rfl) ?_
  refine nw_iconst X 1 d_Law_law_434 (by decide) ?_
  refine nw_iadd X d_Law_law_435 ?_
  refine lw_ld G V (by omega) d_Law_law_436 ?_
  refine nw_aload_n X d_Law_law_437 rfl (lv_at hl 0 rfl) ?_
  refine nw_iload_n X d_Law_law_438 rfl (lv_at hl 3 rfl) ?_
  refine nw_iconst X 2 d_Law_law_439 (by decide) ?_
  refine nw_iadd X d_Law_law_440 ?_
  refine lw_ld G V (by omega) d_Law_law_441 ?_
  refine hw_calli X V (hz (20, 0) rfl) rfl rfl (cm_Mod_commutator l z σ hz _ _ _ _ S hM (xs (i + 1)) (xs (i + 2))) cs_Law_74 (by decide) rfl hl.1 rfl (Nat.le_of_ble_eq_true rfl) hcs d_Law_law_442 (fun r2 σ2 H locs V hr => ?_)
  obtain ⟨hσ2, ha2⟩ := hr
  rw [hσ2] at V
  clear hσ2
  rw [hf] at ha2
  exact lv_icmp_eq X.1.1 X.1.2.1 (tgt := 769) d_Law_law_445 (by decide) (fun _ => K _ _ _ V hJ) (fun hne => absurd (an_u ha1 ha2 (fun _ => rfl)) hne)
set_option maxHeartbeats 4000000 in
set_option maxRecDepth 20000 in
theorem lw_c12 {p : Program} {l : Launch} {e : Env} {s : State} {m : MethodId} {args : Array Value} {below : List Frame} {meth : Method} {c : Code} {H : Heap} {locs : List Loc} {cells slots : Nat} {Q : State → Prop} {ls : Array Slot} {z : zz_Z} {A : Nat → Prop} {σ : hw_M} {b L i : Nat} {xs : Nat → Int32}
    (G : lw_G p s m args c z b L xs A) (V : lw_V z A σ s.heap H locs) (hJ : lw_J z σ) (hi : i + 4 ≤ L) (hcs : cells ≤ 600000 ∧ slots ≤ 7302250) (hl : lv_has ls 4 [(0, .ref b), (1, .ref (zz_A z (0, 0))), (2, .ref (zz_A z (20, 0))), (3, .int (nI i))])
    (K : ∀ (σ' : hw_M) (H' : Heap) (locs' : List Loc), lw_V z A σ' s.heap H' locs' → lw_J z σ' → W p l e room_1 s m args below meth c H' locs' cells slots Q (F0 m 769 ls [])) :
    W p l e room_1 s m args below meth c H locs cells slots Q (F0 m 450 ls []) := by
  have X := G.1
  have hz := G.2.1
  obtain ⟨S, hC, hM, hf, hSl⟩ := id hJ
  refine nw_aload_n X d_Law_law_450 rfl (lv_at hl 1 rfl) ?_
  refine nw_aload_n X d_Law_law_451 rfl (lv_at hl 0 rfl) ?_
  refine nw_iload_n X d_Law_law_452 rfl (lv_at hl 3 rfl) ?_
  refine nw_iconst X 1 d_Law_law_453 (by decide) ?_
  refine nw_iadd X d_Law_law_454 ?_
  refine lw_ld G V (by omega) d_Law_law_455 ?_
  refine hw_calli X V (hz (0, 0) rfl) rfl rfl (cm_Top_order l z σ hz S hC (xs (i + 1))) cs_Law_75 (by decide) rfl hl.1 rfl (Nat.le_of_ble_eq_true rfl) hcs d_Law_law_456 (fun r1 σ1 H locs V hr => ?_)
  obtain ⟨hσ1, ha1⟩ := hr
  rw [hσ1] at V
  clear hσ1
  refine nw_aload_n X d_Law_law_459 rfl (lv_at hl 2 rfl) ?_
  refine nw_aload_n X d_Law_law_460 rfl (lv_at hl 0 rfl) ?_
  refine nw_iload_n X d_Law_law_461 rfl (lv_at hl 3 rfl) ?_
  refine nw_iconst X 1 d_Law_law_462 (by decide) ?_
  refine nw_iadd X d_Law_law_463 ?_
  refine lw_ld G V (by omega) d_Law_law_464 ?_
  refine hw_calli X V (hz (20, 0) rfl) rfl rfl (cm_Mod_order l z σ hz _ _ _ _ S hM (xs (i + 1))) cs_Law_78 (by decide) rfl hl.1 rfl (Nat.le_of_ble_eq_true rfl) hcs d_Law_law_465 (fun r2 σ2 H locs V hr => ?_)
  obtain ⟨hσ2, ha2⟩ := hr
  rw [hσ2] at V
  clear hσ2
  rw [hf] at ha2
  exact lv_icmp_eq X.1.1 X.1.2.1 (tgt := 769) d_Law_law_468 (by decide) (fun _ => K _ _ _ V hJ) (fun hne => absurd (lw_or ha1 ha2) hne)
set_option maxHeartbeats 4000000 in
set_option maxRecDepth 20000 in
theorem lw_c13 {p : Program} {l : Launch} {e : Env} {s : State} {m : MethodId} {args : Array Value} {below : List Frame} {meth : Method} {c : Code} {H : Heap} {locs : List Loc} {cells slots : Nat} {Q : State → Prop} {ls : Array Slot} {z : zz_Z} {A : Nat → Prop} {σ : hw_M} {b L i : Nat} {xs : Nat → Int32}
    (G : lw_G p s m args c z b L xs A) (V : lw_V z A σ s.heap H locs) (hJ : lw_J z σ) (hi : i + 4 ≤ L) (hcs : cells ≤ 600000 ∧ slots ≤ 7302250) (hl : lv_has ls 4 [(0, .ref b), (1, .ref (zz_A z (0, 0))), (2, .ref (zz_A z (20, 0))), (3, .int (nI i))])
    (K : ∀ (σ' : hw_M) (H' : Heap) (locs' : List Loc), lw_V z A σ' s.heap H' locs' → lw_J z σ' → W p l e room_1 s m args below meth c H' locs' cells slots Q (F0 m 769 ls [])) :
    W p l e room_1 s m args below meth c H locs cells slots Q (F0 m 473 ls []) := by
  have X := G.1
  have hz := G.2.1
  obtain ⟨S, hC, hM, hf, hSl⟩ := id hJ
  refine nw_aload_n X d_Law_law_473 rfl (lv_at hl 1 rfl) ?_
  refine nw_aload_n X d_Law_law_474 rfl (lv_at hl 0 rfl) ?_
  refine nw_iload_n X d_Law_law_475 rfl (lv_at hl 3 rfl) ?_
  refine nw_iconst X 1 d_Law_law_476 (by decide) ?_
  refine nw_iadd X d_Law_law_477 ?_
  refine lw_ld G V (by omega) d_Law_law_478 ?_
  refine hw_calli X V (hz (0, 0) rfl) rfl rfl (cm_Top_clear l z σ hz S hC (xs (i + 1))) cs_Law_79 (by decide) rfl hl.1 rfl (Nat.le_of_ble_eq_true rfl) hcs d_Law_law_479 (fun r1 σ1 H locs V hr => ?_)
  obtain ⟨hC1, hq1, ha1⟩ := hr
  have hM1 := lw_m1 hM hq1
  have e20 := lw_e20 hq1 hf
  refine nw_aload_n X d_Law_law_482 rfl (lv_at hl 2 rfl) ?_
  refine nw_aload_n X d_Law_law_483 rfl (lv_at hl 0 rfl) ?_
  refine nw_iload_n X d_Law_law_484 rfl (lv_at hl 3 rfl) ?_
  refine nw_iconst X 1 d_Law_law_485 (by decide) ?_
  refine nw_iadd X d_Law_law_486 ?_
  refine lw_ld G V (by omega) d_Law_law_487 ?_
  refine hw_calli X V (hz (20, 0) rfl) rfl rfl (cm_Mod_clear l z σ1 hz _ _ _ _ S hM1 (xs (i + 1))) cs_Law_82 (by decide) rfl hl.1 rfl (Nat.le_of_ble_eq_true rfl) hcs d_Law_law_488 (fun r2 σ2 H locs V hr => ?_)
  obtain ⟨hM2, hq2, ha2⟩ := hr
  rw [e20] at hM2 ha2
  exact lv_icmp_eq X.1.1 X.1.2.1 (tgt := 769) d_Law_law_491 (by decide) (fun _ => K _ _ _ V (lw_q hC1 hq1 hM2 hq2 hf)) (fun hne => absurd (an_u ha1 ha2 (fun _ => rfl)) hne)
set_option maxHeartbeats 4000000 in
set_option maxRecDepth 20000 in
theorem lw_c14 {p : Program} {l : Launch} {e : Env} {s : State} {m : MethodId} {args : Array Value} {below : List Frame} {meth : Method} {c : Code} {H : Heap} {locs : List Loc} {cells slots : Nat} {Q : State → Prop} {ls : Array Slot} {z : zz_Z} {A : Nat → Prop} {σ : hw_M} {b L i : Nat} {xs : Nat → Int32}
    (G : lw_G p s m args c z b L xs A) (V : lw_V z A σ s.heap H locs) (hJ : lw_J z σ) (hi : i + 4 ≤ L) (hcs : cells ≤ 600000 ∧ slots ≤ 7302250) (hl : lv_has ls 4 [(0, .ref b), (1, .ref (zz_A z (0, 0))), (2, .ref (zz_A z (20, 0))), (3, .int (nI i))])
    (K : ∀ (σ' : hw_M) (H' : Heap) (locs' : List Loc), lw_V z A σ' s.heap H' locs' → lw_J z σ' → W p l e room_1 s m args below meth c H' locs' cells slots Q (F0 m 769 ls [])) :
    W p l e room_1 s m args below meth c H locs cells slots Q (F0 m 496 ls []) := by
  have X := G.1
  have hz := G.2.1
  obtain ⟨S, hC, hM, hf, hSl⟩ := id hJ
  refine nw_aload_n X d_Law_law_496 rfl (lv_at hl 1 rfl) ?_
  refine nw_aload_n X d_Law_law_497 rfl (lv_at hl 0 rfl) ?_
  refine nw_iload_n X d_Law_law_498 rfl (lv_at hl 3 rfl) ?_
  refine nw_iconst X 1 d_Law_law_499 (by decide) ?_
  refine nw_iadd X d_Law_law_500 ?_
  refine lw_ld G V (by omega) d_Law_law_501 ?_
  refine nw_aload_n X d_Law_law_502 rfl (lv_at hl 0 rfl) ?_
  refine nw_iload_n X d_Law_law_503 rfl (lv_at hl 3 rfl) ?_
  refine nw_iconst X 2 d_Law_law_504 (by decide) ?_
  refine nw_iadd X d_Law_law_505 ?_
  refine lw_ld G V (by omega) d_Law_law_506 ?_
  refine hw_calli X V (hz (0, 0) rfl) rfl rfl (cm_Top_join l z σ hz S hC (xs (i + 1)) (xs (i + 2))) cs_Law_83 (by decide) rfl hl.1 rfl (Nat.le_of_ble_eq_true rfl) hcs d_Law_law_507 (fun r1 σ1 H locs V hr => ?_)
  obtain ⟨hC1, hq1, ha1⟩ := hr
  have hM1 := lw_m1 hM hq1
  have e20 := lw_e20 hq1 hf
  refine nw_aload_n X d_Law_law_510 rfl (lv_at hl 2 rfl) ?_
  refine nw_aload_n X d_Law_law_511 rfl (lv_at hl 0 rfl) ?_
  refine nw_iload_n X d_Law_law_512 rfl (lv_at hl 3 rfl) ?_
  refine nw_iconst X 1 d_Law_law_513 (by decide) ?_
  refine nw_iadd X d_Law_law_514 ?_
  refine lw_ld G V (by omega) d_Law_law_515 ?_
  refine nw_aload_n X d_Law_law_516 rfl (lv_at hl 0 rfl) ?_
  refine nw_iload_n X d_Law_law_517 rfl (lv_at hl 3 rfl) ?_
  refine nw_iconst X 2 d_Law_law_518 (by decide) ?_
  refine nw_iadd X d_Law_law_519 ?_
  refine lw_ld G V (by omega) d_Law_law_520 ?_
  refine hw_calli X V (hz (20, 0) rfl) rfl rfl (cm_Mod_join l z σ1 hz _ _ _ _ S hM1 hSl (xs (i + 1)) (xs (i + 2))) cs_Law_86 (by decide) rfl hl.1 rfl (Nat.le_of_ble_eq_true rfl) hcs d_Law_law_521 (fun r2 σ2 H locs V hr => ?_)
  obtain ⟨hM2, hq2, ha2⟩ := hr
  rw [e20] at hM2 ha2
  exact lv_icmp_eq X.1.1 X.1.2.1 (tgt := 769) d_Law_law_524 (by decide) (fun _ => K _ _ _ V (lw_q hC1 hq1 hM2 hq2 hf)) (fun hne => absurd (an_u ha1 ha2 (fun _ => rfl)) hne)
set_option maxHeartbeats 4000000 in
set_option maxRecDepth 20000 in
theorem lw_c15 {p : Program} {l : Launch} {e : Env} {s : State} {m : MethodId} {args : Array Value} {below : List Frame} {meth : Method} {c : Code} {H : Heap} {locs : List Loc} {cells slots : Nat} {Q : State → Prop} {ls : Array Slot} {z : zz_Z} {A : Nat → Prop} {σ : hw_M} {b L i : Nat} {xs : Nat → Int32}
    (G : lw_G p s m args c z b L xs A) (V : lw_V z A σ s.heap H locs) (hJ : lw_J z σ) (hi : i + 4 ≤ L) (hcs : cells ≤ 600000 ∧ slots ≤ 7302250) (hl : lv_has ls 4 [(0, .ref b), (1, .ref (zz_A z (0, 0))), (2, .ref (zz_A z (20, 0))), (3, .int (nI i))])
    (K : ∀ (σ' : hw_M) (H' : Heap) (locs' : List Loc), lw_V z A σ' s.heap H' locs' → lw_J z σ' → W p l e room_1 s m args below meth c H' locs' cells slots Q (F0 m 769 ls [])) :
    W p l e room_1 s m args below meth c H locs cells slots Q (F0 m 529 ls []) := by
  have X := G.1
  have hz := G.2.1
  obtain ⟨S, hC, hM, hf, hSl⟩ := id hJ
  refine nw_aload_n X d_Law_law_529 rfl (lv_at hl 1 rfl) ?_
  refine nw_aload_n X d_Law_law_530 rfl (lv_at hl 0 rfl) ?_
  refine nw_iload_n X d_Law_law_531 rfl (lv_at hl 3 rfl) ?_
  refine nw_iconst X 1 d_Law_law_532 (by decide) ?_
  refine nw_iadd X d_Law_law_533 ?_
  refine lw_ld G V (by omega) d_Law_law_534 ?_
  refine hw_calli X V (hz (0, 0) rfl) rfl rfl (cm_Top_spread l z σ hz S hC (xs (i + 1))) cs_Law_87 (by decide) rfl hl.1 rfl (Nat.le_of_ble_eq_true rfl) hcs d_Law_law_535 (fun r1 σ1 H locs V hr => ?_)
  obtain ⟨hC1, hq1, ha1⟩ := hr
  have hM1 := lw_m1 hM hq1
  have e20 := lw_e20 hq1 hf
  refine nw_aload_n X d_Law_law_538 rfl (lv_at hl 2 rfl) ?_
  refine nw_aload_n X d_Law_law_539 rfl (lv_at hl 0 rfl) ?_
  refine nw_iload_n X d_Law_law_540 rfl (lv_at hl 3 rfl) ?_
  refine nw_iconst X 1 d_Law_law_541 (by decide) ?_
  refine nw_iadd X d_Law_law_542 ?_
  refine lw_ld G V (by omega) d_Law_law_543 ?_
  refine hw_calli X V (hz (20, 0) rfl) rfl rfl (cm_Mod_spread l z σ1 hz _ _ _ _ S hM1 hSl (xs (i + 1))) cs_Law_90 (by decide) rfl hl.1 rfl (Nat.le_of_ble_eq_true rfl) hcs d_Law_law_544 (fun r2 σ2 H locs V hr => ?_)
  obtain ⟨hM2, hq2, ha2⟩ := hr
  rw [e20] at hM2 ha2
  exact lv_icmp_eq X.1.1 X.1.2.1 (tgt := 769) d_Law_law_547 (by decide) (fun _ => K _ _ _ V (lw_q hC1 hq1 hM2 hq2 hf)) (fun hne => absurd (an_u ha1 ha2 (fun _ => rfl)) hne)
set_option maxHeartbeats 4000000 in
set_option maxRecDepth 20000 in
theorem lw_c16 {p : Program} {l : Launch} {e : Env} {s : State} {m : MethodId} {args : Array Value} {below : List Frame} {meth : Method} {c : Code} {H : Heap} {locs : List Loc} {cells slots : Nat} {Q : State → Prop} {ls : Array Slot} {z : zz_Z} {A : Nat → Prop} {σ : hw_M} {b L i : Nat} {xs : Nat → Int32}
    (G : lw_G p s m args c z b L xs A) (V : lw_V z A σ s.heap H locs) (hJ : lw_J z σ) (hi : i + 4 ≤ L) (hcs : cells ≤ 600000 ∧ slots ≤ 7302250) (hl : lv_has ls 4 [(0, .ref b), (1, .ref (zz_A z (0, 0))), (2, .ref (zz_A z (20, 0))), (3, .int (nI i))])
    (K : ∀ (σ' : hw_M) (H' : Heap) (locs' : List Loc), lw_V z A σ' s.heap H' locs' → lw_J z σ' → W p l e room_1 s m args below meth c H' locs' cells slots Q (F0 m 769 ls [])) :
    W p l e room_1 s m args below meth c H locs cells slots Q (F0 m 552 ls []) := by
  have X := G.1
  have hz := G.2.1
  obtain ⟨S, hC, hM, hf, hSl⟩ := id hJ
  refine nw_aload_n X d_Law_law_552 rfl (lv_at hl 1 rfl) ?_
  refine nw_aload_n X d_Law_law_553 rfl (lv_at hl 0 rfl) ?_
  refine nw_iload_n X d_Law_law_554 rfl (lv_at hl 3 rfl) ?_
  refine nw_iconst X 1 d_Law_law_555 (by decide) ?_
  refine nw_iadd X d_Law_law_556 ?_
  refine lw_ld G V (by omega) d_Law_law_557 ?_
  refine nw_aload_n X d_Law_law_558 rfl (lv_at hl 0 rfl) ?_
  refine nw_iload_n X d_Law_law_559 rfl (lv_at hl 3 rfl) ?_
  refine nw_iconst X 2 d_Law_law_560 (by decide) ?_
  refine nw_iadd X d_Law_law_561 ?_
  refine lw_ld G V (by omega) d_Law_law_562 ?_
  refine nw_aload_n X d_Law_law_563 rfl (lv_at hl 0 rfl) ?_
  refine nw_iload_n X d_Law_law_564 rfl (lv_at hl 3 rfl) ?_
  refine nw_iconst X 3 d_Law_law_565 (by decide) ?_
  refine nw_iadd X d_Law_law_566 ?_
  refine lw_ld G V (by omega) d_Law_law_567 ?_
  refine hw_calli X V (hz (0, 0) rfl) rfl rfl (cm_Top_commute l z σ hz S hC (xs (i + 1)) (xs (i + 2)) (xs (i + 3))) cs_Law_91 (by decide) rfl hl.1 rfl (Nat.le_of_ble_eq_true rfl) hcs d_Law_law_568 (fun r1 σ1 H locs V hr => ?_)
  obtain ⟨hC1, hq1, ha1⟩ := hr
  have hM1 := lw_m1 hM hq1
  have e20 := lw_e20 hq1 hf
  refine nw_aload_n X d_Law_law_571 rfl (lv_at hl 2 rfl) ?_
  refine nw_aload_n X d_Law_law_572 rfl (lv_at hl 0 rfl) ?_
  refine nw_iload_n X d_Law_law_573 rfl (lv_at hl 3 rfl) ?_
  refine nw_iconst X 1 d_Law_law_574 (by decide) ?_
  refine nw_iadd X d_Law_law_575 ?_
  refine lw_ld G V (by omega) d_Law_law_576 ?_
  refine nw_aload_n X d_Law_law_577 rfl (lv_at hl 0 rfl) ?_
  refine nw_iload_n X d_Law_law_578 rfl (lv_at hl 3 rfl) ?_
  refine nw_iconst X 2 d_Law_law_579 (by decide) ?_
  refine nw_iadd X d_Law_law_580 ?_
  refine lw_ld G V (by omega) d_Law_law_581 ?_
  refine nw_aload_n X d_Law_law_582 rfl (lv_at hl 0 rfl) ?_
  refine nw_iload_n X d_Law_law_583 rfl (lv_at hl 3 rfl) ?_
  refine nw_iconst X 3 d_Law_law_584 (by decide) ?_
  refine nw_iadd X d_Law_law_585 ?_
  refine lw_ld G V (by omega) d_Law_law_586 ?_
  refine hw_calli X V (hz (20, 0) rfl) rfl rfl (cm_Mod_commute l z σ1 hz _ _ _ _ S hM1 hSl (xs (i + 1)) (xs (i + 2)) (xs (i + 3))) cs_Law_95 (by decide) rfl hl.1 rfl (Nat.le_of_ble_eq_true rfl) hcs d_Law_law_587 (fun r2 σ2 H locs V hr => ?_)
  obtain ⟨hM2, hq2, ha2⟩ := hr
  rw [e20] at hM2 ha2
  exact lv_icmp_eq X.1.1 X.1.2.1 (tgt := 769) d_Law_law_590 (by decide) (fun _ => K _ _ _ V (lw_q hC1 hq1 hM2 hq2 hf)) (fun hne => absurd (an_u ha1 ha2 (fun _ => rfl)) hne)
set_option maxHeartbeats 4000000 in
set_option maxRecDepth 20000 in
theorem lw_c17 {p : Program} {l : Launch} {e : Env} {s : State} {m : MethodId} {args : Array Value} {below : List Frame} {meth : Method} {c : Code} {H : Heap} {locs : List Loc} {cells slots : Nat} {Q : State → Prop} {ls : Array Slot} {z : zz_Z} {A : Nat → Prop} {σ : hw_M} {b L i : Nat} {xs : Nat → Int32}
    (G : lw_G p s m args c z b L xs A) (V : lw_V z A σ s.heap H locs) (hJ : lw_J z σ) (hi : i + 4 ≤ L) (hcs : cells ≤ 600000 ∧ slots ≤ 7302250) (hl : lv_has ls 4 [(0, .ref b), (1, .ref (zz_A z (0, 0))), (2, .ref (zz_A z (20, 0))), (3, .int (nI i))])
    (K : ∀ (σ' : hw_M) (H' : Heap) (locs' : List Loc), lw_V z A σ' s.heap H' locs' → lw_J z σ' → W p l e room_1 s m args below meth c H' locs' cells slots Q (F0 m 769 ls [])) :
    W p l e room_1 s m args below meth c H locs cells slots Q (F0 m 595 ls []) := by
  have X := G.1
  have hz := G.2.1
  obtain ⟨S, hC, hM, hf, hSl⟩ := id hJ
  refine nw_aload_n X d_Law_law_595 rfl (lv_at hl 1 rfl) ?_
  refine nw_aload_n X d_Law_law_596 rfl (lv_at hl 0 rfl) ?_
  refine nw_iload_n X d_Law_law_597 rfl (lv_at hl 3 rfl) ?_
  refine nw_iconst X 1 d_Law_law_598 (by decide) ?_
  refine nw_iadd X d_Law_law_599 ?_
  refine lw_ld G V (by omega) d_Law_law_600 ?_
  refine hw_calli X V (hz (0, 0) rfl) rfl rfl (cm_Top_count l z σ hz S hC (xs (i + 1))) cs_Law_96 (by decide) rfl hl.1 rfl (Nat.le_of_ble_eq_true rfl) hcs d_Law_law_601 (fun r1 σ1 H locs V hr => ?_)
  obtain ⟨hσ1, ha1⟩ := hr
  rw [hσ1] at V
  clear hσ1
  refine nw_aload_n X d_Law_law_604 rfl (lv_at hl 2 rfl) ?_
  refine nw_aload_n X d_Law_law_605 rfl (lv_at hl 0 rfl) ?_
  refine nw_iload_n X d_Law_law_606 rfl (lv_at hl 3 rfl) ?_
  refine nw_iconst X 1 d_Law_law_607 (by decide) ?_
  refine nw_iadd X d_Law_law_608 ?_
  refine lw_ld G V (by omega) d_Law_law_609 ?_
  refine hw_calli X V (hz (20, 0) rfl) rfl rfl (cm_Mod_count l z σ hz _ _ _ _ S hM (xs (i + 1))) cs_Law_99 (by decide) rfl hl.1 rfl (Nat.le_of_ble_eq_true rfl) hcs d_Law_law_610 (fun r2 σ2 H locs V hr => ?_)
  obtain ⟨hM2, hq2, ha2⟩ := hr
  rw [hf] at ha2
  exact lv_icmp_eq X.1.1 X.1.2.1 (tgt := 769) d_Law_law_613 (by decide) (fun _ => K _ _ _ V (lw_q hC cs_q.rf hM2 hq2 hf)) (fun hne => absurd (an_u ha1 ha2 (fun _ => rfl)) hne)
set_option maxHeartbeats 4000000 in
set_option maxRecDepth 20000 in
theorem lw_c18 {p : Program} {l : Launch} {e : Env} {s : State} {m : MethodId} {args : Array Value} {below : List Frame} {meth : Method} {c : Code} {H : Heap} {locs : List Loc} {cells slots : Nat} {Q : State → Prop} {ls : Array Slot} {z : zz_Z} {A : Nat → Prop} {σ : hw_M} {b L i : Nat} {xs : Nat → Int32}
    (G : lw_G p s m args c z b L xs A) (V : lw_V z A σ s.heap H locs) (hJ : lw_J z σ) (hi : i + 4 ≤ L) (hcs : cells ≤ 600000 ∧ slots ≤ 7302250) (hl : lv_has ls 4 [(0, .ref b), (1, .ref (zz_A z (0, 0))), (2, .ref (zz_A z (20, 0))), (3, .int (nI i))])
    (K : ∀ (σ' : hw_M) (H' : Heap) (locs' : List Loc), lw_V z A σ' s.heap H' locs' → lw_J z σ' → W p l e room_1 s m args below meth c H' locs' cells slots Q (F0 m 769 ls [])) :
    W p l e room_1 s m args below meth c H locs cells slots Q (F0 m 618 ls []) := by
  have X := G.1
  have hz := G.2.1
  obtain ⟨S, hC, hM, hf, hSl⟩ := id hJ
  refine nw_aload_n X d_Law_law_618 rfl (lv_at hl 1 rfl) ?_
  refine nw_aload_n X d_Law_law_619 rfl (lv_at hl 0 rfl) ?_
  refine nw_iload_n X d_Law_law_620 rfl (lv_at hl 3 rfl) ?_
  refine nw_iconst X 1 d_Law_law_621 (by decide) ?_
  refine nw_iadd X d_Law_law_622 ?_
  refine lw_ld G V (by omega) d_Law_law_623 ?_
  refine nw_aload_n X d_Law_law_624 rfl (lv_at hl 0 rfl) ?_
  refine nw_iload_n X d_Law_law_625 rfl (lv_at hl 3 rfl) ?_
  refine nw_iconst X 2 d_Law_law_626 (by decide) ?_
  refine nw_iadd X d_Law_law_627 ?_
  refine lw_ld G V (by omega) d_Law_law_628 ?_
  refine hw_calli X V (hz (0, 0) rfl) rfl rfl (cm_Top_has l z σ hz S hC (xs (i + 1)) (xs (i + 2))) cs_Law_100 (by decide) rfl hl.1 rfl (Nat.le_of_ble_eq_true rfl) hcs d_Law_law_629 (fun r1 σ1 H locs V hr => ?_)
  obtain ⟨b1, -, rfl, hσ1, hb1⟩ := hr
  rw [hσ1] at V
  clear hσ1
  refine nw_aload_n X d_Law_law_632 rfl (lv_at hl 2 rfl) ?_
  refine nw_aload_n X d_Law_law_633 rfl (lv_at hl 0 rfl) ?_
  refine nw_iload_n X d_Law_law_634 rfl (lv_at hl 3 rfl) ?_
  refine nw_iconst X 1 d_Law_law_635 (by decide) ?_
  refine nw_iadd X d_Law_law_636 ?_
  refine lw_ld G V (by omega) d_Law_law_637 ?_
  refine nw_aload_n X d_Law_law_638 rfl (lv_at hl 0 rfl) ?_
  refine nw_iload_n X d_Law_law_639 rfl (lv_at hl 3 rfl) ?_
  refine nw_iconst X 2 d_Law_law_640 (by decide) ?_
  refine nw_iadd X d_Law_law_641 ?_
  refine lw_ld G V (by omega) d_Law_law_642 ?_
  refine hw_calli X V (hz (20, 0) rfl) rfl rfl (cm_Mod_has l z σ hz _ _ _ _ S hM (xs (i + 1)) (xs (i + 2))) cs_Law_103 (by decide) rfl hl.1 rfl (Nat.le_of_ble_eq_true rfl) hcs d_Law_law_643 (fun r2 σ2 H locs V hr => ?_)
  obtain ⟨b2, -, rfl, hσ2, hb2⟩ := hr
  rw [hσ2] at V
  clear hσ2
  rw [hf] at hb2
  exact lv_icmp_eq X.1.1 X.1.2.1 (tgt := 769) d_Law_law_646 (by decide) (fun _ => K _ _ _ V hJ) (fun hne => absurd (congrArg nI (hb1.trans hb2.symm)) hne)
set_option maxHeartbeats 4000000 in
set_option maxRecDepth 20000 in
theorem lw_c19 {p : Program} {l : Launch} {e : Env} {s : State} {m : MethodId} {args : Array Value} {below : List Frame} {meth : Method} {c : Code} {H : Heap} {locs : List Loc} {cells slots : Nat} {Q : State → Prop} {ls : Array Slot} {z : zz_Z} {A : Nat → Prop} {σ : hw_M} {b L i : Nat} {xs : Nat → Int32}
    (G : lw_G p s m args c z b L xs A) (V : lw_V z A σ s.heap H locs) (hJ : lw_J z σ) (hi : i + 4 ≤ L) (hcs : cells ≤ 600000 ∧ slots ≤ 7302250) (hl : lv_has ls 4 [(0, .ref b), (1, .ref (zz_A z (0, 0))), (2, .ref (zz_A z (20, 0))), (3, .int (nI i))])
    (K : ∀ (σ' : hw_M) (H' : Heap) (locs' : List Loc), lw_V z A σ' s.heap H' locs' → lw_J z σ' → W p l e room_1 s m args below meth c H' locs' cells slots Q (F0 m 769 ls [])) :
    W p l e room_1 s m args below meth c H locs cells slots Q (F0 m 651 ls []) := by
  have X := G.1
  have hz := G.2.1
  obtain ⟨S, hC, hM, hf, hSl⟩ := id hJ
  refine nw_aload_n X d_Law_law_651 rfl (lv_at hl 1 rfl) ?_
  refine nw_aload_n X d_Law_law_652 rfl (lv_at hl 0 rfl) ?_
  refine nw_iload_n X d_Law_law_653 rfl (lv_at hl 3 rfl) ?_
  refine nw_iconst X 1 d_Law_law_654 (by decide) ?_
  refine nw_iadd X d_Law_law_655 ?_
  refine lw_ld G V (by omega) d_Law_law_656 ?_
  refine hw_calli X V (hz (0, 0) rfl) rfl rfl (cm_Top_derived l z σ hz S hC (xs (i + 1))) cs_Law_104 (by decide) rfl hl.1 rfl (Nat.le_of_ble_eq_true rfl) hcs d_Law_law_657 (fun r1 σ1 H locs V hr => ?_)
  obtain ⟨hC1, hq1, ha1⟩ := hr
  have hM1 := lw_m1 hM hq1
  have e20 := lw_e20 hq1 hf
  refine nw_aload_n X d_Law_law_660 rfl (lv_at hl 2 rfl) ?_
  refine nw_aload_n X d_Law_law_661 rfl (lv_at hl 0 rfl) ?_
  refine nw_iload_n X d_Law_law_662 rfl (lv_at hl 3 rfl) ?_
  refine nw_iconst X 1 d_Law_law_663 (by decide) ?_
  refine nw_iadd X d_Law_law_664 ?_
  refine lw_ld G V (by omega) d_Law_law_665 ?_
  refine hw_calli X V (hz (20, 0) rfl) rfl rfl (cm_Mod_derived l z σ1 hz _ _ _ _ S hM1 (xs (i + 1))) cs_Law_107 (by decide) rfl hl.1 rfl (Nat.le_of_ble_eq_true rfl) hcs d_Law_law_666 (fun r2 σ2 H locs V hr => ?_)
  obtain ⟨hM2, hq2, ha2⟩ := hr
  rw [e20] at ha2
  exact lv_icmp_eq X.1.1 X.1.2.1 (tgt := 769) d_Law_law_669 (by decide) (fun _ => K _ _ _ V (lw_q hC1 hq1 hM2 hq2 hf)) (fun hne => absurd (an_u ha1 ha2 (fun h9 => sp_min (lo_gp (hC.2.2.2.2 h9.1).1) hC.1.2.1 false _)) hne)
set_option maxHeartbeats 4000000 in
set_option maxRecDepth 20000 in
theorem lw_c20 {p : Program} {l : Launch} {e : Env} {s : State} {m : MethodId} {args : Array Value} {below : List Frame} {meth : Method} {c : Code} {H : Heap} {locs : List Loc} {cells slots : Nat} {Q : State → Prop} {ls : Array Slot} {z : zz_Z} {A : Nat → Prop} {σ : hw_M} {b L i : Nat} {xs : Nat → Int32}
    (G : lw_G p s m args c z b L xs A) (V : lw_V z A σ s.heap H locs) (hJ : lw_J z σ) (hi : i + 4 ≤ L) (hcs : cells ≤ 600000 ∧ slots ≤ 7302250) (hl : lv_has ls 4 [(0, .ref b), (1, .ref (zz_A z (0, 0))), (2, .ref (zz_A z (20, 0))), (3, .int (nI i))])
    (K : ∀ (σ' : hw_M) (H' : Heap) (locs' : List Loc), lw_V z A σ' s.heap H' locs' → lw_J z σ' → W p l e room_1 s m args below meth c H' locs' cells slots Q (F0 m 769 ls [])) :
    W p l e room_1 s m args below meth c H locs cells slots Q (F0 m 674 ls []) := by
  have X := G.1
  have hz := G.2.1
  obtain ⟨S, hC, hM, hf, hSl⟩ := id hJ
  refine nw_aload_n X d_Law_law_674 rfl (lv_at hl 1 rfl) ?_
  refine nw_aload_n X d_Law_law_675 rfl (lv_at hl 0 rfl) ?_
  refine nw_iload_n X d_Law_law_676 rfl (lv_at hl 3 rfl) ?_
  refine nw_iconst X 1 d_Law_law_677 (by decide) ?_
  refine nw_iadd X d_Law_law_678 ?_
  refine lw_ld G V (by omega) d_Law_law_679 ?_
  refine hw_calli X V (hz (0, 0) rfl) rfl rfl (cm_Top_lower l z σ hz S hC (xs (i + 1))) cs_Law_108 (by decide) rfl hl.1 rfl (Nat.le_of_ble_eq_true rfl) hcs d_Law_law_680 (fun r1 σ1 H locs V hr => ?_)
  obtain ⟨hC1, hq1, ha1⟩ := hr
  have hM1 := lw_m1 hM hq1
  have e20 := lw_e20 hq1 hf
  refine nw_aload_n X d_Law_law_683 rfl (lv_at hl 2 rfl) ?_
  refine nw_aload_n X d_Law_law_684 rfl (lv_at hl 0 rfl) ?_
  refine nw_iload_n X d_Law_law_685 rfl (lv_at hl 3 rfl) ?_
  refine nw_iconst X 1 d_Law_law_686 (by decide) ?_
  refine nw_iadd X d_Law_law_687 ?_
  refine lw_ld G V (by omega) d_Law_law_688 ?_
  refine hw_calli X V (hz (20, 0) rfl) rfl rfl (cm_Mod_lower l z σ1 hz _ _ _ _ S hM1 (xs (i + 1))) cs_Law_111 (by decide) rfl hl.1 rfl (Nat.le_of_ble_eq_true rfl) hcs d_Law_law_689 (fun r2 σ2 H locs V hr => ?_)
  obtain ⟨hM2, hq2, ha2⟩ := hr
  rw [e20] at ha2
  exact lv_icmp_eq X.1.1 X.1.2.1 (tgt := 769) d_Law_law_692 (by decide) (fun _ => K _ _ _ V (lw_q hC1 hq1 hM2 hq2 hf)) (fun hne => absurd (an_u ha1 ha2 (fun h9 => sp_min (lo_gp (hC.2.2.2.2 h9.1).1) hC.1.2.1 true _)) hne)
set_option maxHeartbeats 4000000 in
set_option maxRecDepth 20000 in
theorem lw_c21 {p : Program} {l : Launch} {e : Env} {s : State} {m : MethodId} {args : Array Value} {below : List Frame} {meth : Method} {c : Code} {H : Heap} {locs : List Loc} {cells slots : Nat} {Q : State → Prop} {ls : Array Slot} {z : zz_Z} {A : Nat → Prop} {σ : hw_M} {b L i : Nat} {xs : Nat → Int32}
    (G : lw_G p s m args c z b L xs A) (V : lw_V z A σ s.heap H locs) (hJ : lw_J z σ) (hi : i + 4 ≤ L) (hcs : cells ≤ 600000 ∧ slots ≤ 7302250) (hl : lv_has ls 4 [(0, .ref b), (1, .ref (zz_A z (0, 0))), (2, .ref (zz_A z (20, 0))), (3, .int (nI i))])
    (K : ∀ (σ' : hw_M) (H' : Heap) (locs' : List Loc), lw_V z A σ' s.heap H' locs' → lw_J z σ' → W p l e room_1 s m args below meth c H' locs' cells slots Q (F0 m 769 ls [])) :
    W p l e room_1 s m args below meth c H locs cells slots Q (F0 m 697 ls []) := by
  have X := G.1
  have hz := G.2.1
  obtain ⟨S, hC, hM, hf, hSl⟩ := id hJ
  refine nw_aload_n X d_Law_law_697 rfl (lv_at hl 1 rfl) ?_
  refine hw_calli X V (hz (0, 0) rfl) rfl rfl (cm_Top_centre l z σ hz S hC) cs_Law_112 (by decide) rfl hl.1 rfl (Nat.le_of_ble_eq_true rfl) hcs d_Law_law_698 (fun r1 σ1 H locs V hr => ?_)
  obtain ⟨hσ1, ha1⟩ := hr
  rw [hσ1] at V
  clear hσ1
  refine nw_aload_n X d_Law_law_701 rfl (lv_at hl 2 rfl) ?_
  refine hw_calli X V (hz (20, 0) rfl) rfl rfl (cm_Mod_centre l z σ hz _ _ _ _ S hM) cs_Law_115 (by decide) rfl hl.1 rfl (Nat.le_of_ble_eq_true rfl) hcs d_Law_law_702 (fun r2 σ2 H locs V hr => ?_)
  obtain ⟨hσ2, ha2⟩ := hr
  rw [hσ2] at V
  clear hσ2
  rw [hf] at ha2
  exact lv_icmp_eq X.1.1 X.1.2.1 (tgt := 769) d_Law_law_705 (by decide) (fun _ => K _ _ _ V hJ) (fun hne => absurd (an_u ha1 ha2 (fun _ => rfl)) hne)
set_option maxHeartbeats 4000000 in
set_option maxRecDepth 20000 in
theorem lw_c22 {p : Program} {l : Launch} {e : Env} {s : State} {m : MethodId} {args : Array Value} {below : List Frame} {meth : Method} {c : Code} {H : Heap} {locs : List Loc} {cells slots : Nat} {Q : State → Prop} {ls : Array Slot} {z : zz_Z} {A : Nat → Prop} {σ : hw_M} {b L i : Nat} {xs : Nat → Int32}
    (G : lw_G p s m args c z b L xs A) (V : lw_V z A σ s.heap H locs) (hJ : lw_J z σ) (hi : i + 4 ≤ L) (hcs : cells ≤ 600000 ∧ slots ≤ 7302250) (hl : lv_has ls 4 [(0, .ref b), (1, .ref (zz_A z (0, 0))), (2, .ref (zz_A z (20, 0))), (3, .int (nI i))])
    (K : ∀ (σ' : hw_M) (H' : Heap) (locs' : List Loc), lw_V z A σ' s.heap H' locs' → lw_J z σ' → W p l e room_1 s m args below meth c H' locs' cells slots Q (F0 m 769 ls [])) :
    W p l e room_1 s m args below meth c H locs cells slots Q (F0 m 710 ls []) := by
  have X := G.1
  have hz := G.2.1
  obtain ⟨S, hC, hM, hf, hSl⟩ := id hJ
  refine nw_aload_n X d_Law_law_710 rfl (lv_at hl 1 rfl) ?_
  refine hw_calli X V (hz (0, 0) rfl) rfl rfl (cm_Top_classes l z σ hz S hC) cs_Law_116 (by decide) rfl hl.1 rfl (Nat.le_of_ble_eq_true rfl) hcs d_Law_law_711 (fun r1 σ1 H locs V hr => ?_)
  obtain ⟨hC1, hq1, ha1⟩ := hr
  have hM1 := lw_m1 hM hq1
  have e20 := lw_e20 hq1 hf
  refine nw_aload_n X d_Law_law_714 rfl (lv_at hl 2 rfl) ?_
  refine hw_calli X V (hz (20, 0) rfl) rfl rfl (cm_Mod_classes l z σ1 hz _ _ _ _ S hM1) cs_Law_119 (by decide) rfl hl.1 rfl (Nat.le_of_ble_eq_true rfl) hcs d_Law_law_715 (fun r2 σ2 H locs V hr => ?_)
  obtain ⟨hσ2, ha2⟩ := hr
  rw [hσ2] at V
  clear hσ2
  rw [e20] at ha2
  exact lv_icmp_eq X.1.1 X.1.2.1 (tgt := 769) d_Law_law_718 (by decide) (fun _ => K _ _ _ V (lw_q hC1 hq1 hM1 mq_q.rf hf)) (fun hne => absurd (an_u ha1 ha2 (fun _ => rfl)) hne)
set_option maxHeartbeats 4000000 in
set_option maxRecDepth 20000 in
theorem lw_c23 {p : Program} {l : Launch} {e : Env} {s : State} {m : MethodId} {args : Array Value} {below : List Frame} {meth : Method} {c : Code} {H : Heap} {locs : List Loc} {cells slots : Nat} {Q : State → Prop} {ls : Array Slot} {z : zz_Z} {A : Nat → Prop} {σ : hw_M} {b L i : Nat} {xs : Nat → Int32}
    (G : lw_G p s m args c z b L xs A) (V : lw_V z A σ s.heap H locs) (hJ : lw_J z σ) (hi : i + 4 ≤ L) (hcs : cells ≤ 600000 ∧ slots ≤ 7302250) (hl : lv_has ls 4 [(0, .ref b), (1, .ref (zz_A z (0, 0))), (2, .ref (zz_A z (20, 0))), (3, .int (nI i))])
    (K : ∀ (σ' : hw_M) (H' : Heap) (locs' : List Loc), lw_V z A σ' s.heap H' locs' → lw_J z σ' → W p l e room_1 s m args below meth c H' locs' cells slots Q (F0 m 769 ls [])) :
    W p l e room_1 s m args below meth c H locs cells slots Q (F0 m 723 ls []) := by
  have X := G.1
  have hz := G.2.1
  obtain ⟨S, hC, hM, hf, hSl⟩ := id hJ
  refine nw_aload_n X d_Law_law_723 rfl (lv_at hl 1 rfl) ?_
  refine nw_aload_n X d_Law_law_724 rfl (lv_at hl 0 rfl) ?_
  refine nw_iload_n X d_Law_law_725 rfl (lv_at hl 3 rfl) ?_
  refine nw_iconst X 1 d_Law_law_726 (by decide) ?_
  refine nw_iadd X d_Law_law_727 ?_
  refine lw_ld G V (by omega) d_Law_law_728 ?_
  refine hw_calli X V (hz (0, 0) rfl) rfl rfl (cm_Top_kin l z σ hz S hC (xs (i + 1))) cs_Law_120 (by decide) rfl hl.1 rfl (Nat.le_of_ble_eq_true rfl) hcs d_Law_law_729 (fun r1 σ1 H locs V hr => ?_)
  obtain ⟨hC1, hq1, ha1⟩ := hr
  have hM1 := lw_m1 hM hq1
  have e20 := lw_e20 hq1 hf
  refine nw_aload_n X d_Law_law_732 rfl (lv_at hl 2 rfl) ?_
  refine nw_aload_n X d_Law_law_733 rfl (lv_at hl 0 rfl) ?_
  refine nw_iload_n X d_Law_law_734 rfl (lv_at hl 3 rfl) ?_
  refine nw_iconst X 1 d_Law_law_735 (by decide) ?_
  refine nw_iadd X d_Law_law_736 ?_
  refine lw_ld G V (by omega) d_Law_law_737 ?_
  refine hw_calli X V (hz (20, 0) rfl) rfl rfl (cm_Mod_kin l z σ1 hz _ _ _ _ S hM1 (xs (i + 1))) cs_Law_123 (by decide) rfl hl.1 rfl (Nat.le_of_ble_eq_true rfl) hcs d_Law_law_738 (fun r2 σ2 H locs V hr => ?_)
  obtain ⟨hM2, hq2, ha2⟩ := hr
  rw [e20] at ha2
  exact lv_icmp_eq X.1.1 X.1.2.1 (tgt := 769) d_Law_law_741 (by decide) (fun _ => K _ _ _ V (lw_q hC1 hq1 hM2 hq2 hf)) (fun hne => absurd (an_u ha1 ha2 (fun _ => rfl)) hne)
set_option maxHeartbeats 4000000 in
set_option maxRecDepth 20000 in
theorem lw_c24 {p : Program} {l : Launch} {e : Env} {s : State} {m : MethodId} {args : Array Value} {below : List Frame} {meth : Method} {c : Code} {H : Heap} {locs : List Loc} {cells slots : Nat} {Q : State → Prop} {ls : Array Slot} {z : zz_Z} {A : Nat → Prop} {σ : hw_M} {b L i : Nat} {xs : Nat → Int32}
    (G : lw_G p s m args c z b L xs A) (V : lw_V z A σ s.heap H locs) (hJ : lw_J z σ) (hi : i + 4 ≤ L) (hcs : cells ≤ 600000 ∧ slots ≤ 7302250) (hl : lv_has ls 4 [(0, .ref b), (1, .ref (zz_A z (0, 0))), (2, .ref (zz_A z (20, 0))), (3, .int (nI i))])
    (K : ∀ (σ' : hw_M) (H' : Heap) (locs' : List Loc), lw_V z A σ' s.heap H' locs' → lw_J z σ' → W p l e room_1 s m args below meth c H' locs' cells slots Q (F0 m 769 ls [])) :
    W p l e room_1 s m args below meth c H locs cells slots Q (F0 m 746 ls []) := by
  have X := G.1
  have hz := G.2.1
  obtain ⟨S, hC, hM, hf, hSl⟩ := id hJ
  refine nw_aload_n X d_Law_law_746 rfl (lv_at hl 1 rfl) ?_
  refine nw_aload_n X d_Law_law_747 rfl (lv_at hl 0 rfl) ?_
  refine nw_iload_n X d_Law_law_748 rfl (lv_at hl 3 rfl) ?_
  refine nw_iconst X 1 d_Law_law_749 (by decide) ?_
  refine nw_iadd X d_Law_law_750 ?_
  refine lw_ld G V (by omega) d_Law_law_751 ?_
  refine hw_calli X V (hz (0, 0) rfl) rfl rfl (cm_Top_head l z σ hz S hC (xs (i + 1))) cs_Law_124 (by decide) rfl hl.1 rfl (Nat.le_of_ble_eq_true rfl) hcs d_Law_law_752 (fun r1 σ1 H locs V hr => ?_)
  obtain ⟨hC1, hq1, ha1⟩ := hr
  have hM1 := lw_m1 hM hq1
  have e20 := lw_e20 hq1 hf
  refine nw_aload_n X d_Law_law_755 rfl (lv_at hl 2 rfl) ?_
  refine nw_aload_n X d_Law_law_756 rfl (lv_at hl 0 rfl) ?_
  refine nw_iload_n X d_Law_law_757 rfl (lv_at hl 3 rfl) ?_
  refine nw_iconst X 1 d_Law_law_758 (by decide) ?_
  refine nw_iadd X d_Law_law_759 ?_
  refine lw_ld G V (by omega) d_Law_law_760 ?_
  refine hw_calli X V (hz (20, 0) rfl) rfl rfl (cm_Mod_head l z σ1 hz _ _ _ _ S hM1 (xs (i + 1))) cs_Law_127 (by decide) rfl hl.1 rfl (Nat.le_of_ble_eq_true rfl) hcs d_Law_law_761 (fun r2 σ2 H locs V hr => ?_)
  obtain ⟨hσ2, ha2⟩ := hr
  rw [hσ2] at V
  clear hσ2
  rw [e20] at ha2
  exact lv_icmp_eq X.1.1 X.1.2.1 (tgt := 769) d_Law_law_764 (by decide) (fun _ => K _ _ _ V (lw_q hC1 hq1 hM1 mq_q.rf hf)) (fun hne => absurd (lw_hd ha1 ha2) hne)
