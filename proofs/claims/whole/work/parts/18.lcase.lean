def wc_0 (K F : Nat) (st : jS) (f : Nat → Int64) (sm : jS) (a1 : Int32) (a2 : Int32) (a3 : Int32) (a4 : Int32) (cont : jS → (Nat → Int64) → jS → Prop) : Prop :=
  wp_Lw_example K F st f a1 (fun r1 u2 => wp_Mo_example sm a1 (fun r3 u4 => wp_Mo_thrown u4 (fun r5 u6 => r5 = r1 ∧ (r1 = 0 → (u2.2 (Int32.toNatClampNeg 0)) = r3.toInt64) ∧ cont u2.1 u2.2 u6)))
set_option maxRecDepth 100000 in
set_option maxHeartbeats 4000000 in
theorem lc_0 {p : Program} {l : Launch} {e : Env} {s : State} {m : MethodId} {below : List Frame} {meth : Method} {c : Code} {D : va_G} {cI cII cL cJ : ClassId} {ad am sa : Nat → Nat} {ao K F b L cells slots : Nat} {xs : Nat → Int32} {x4 : Int32} {A : Nat → Prop} {Q : State → Prop} {st sm : jS} {f : Nat → Int64} {cont : jS → (Nat → Int64) → jS → Prop} (hl0 : l.stackTraces = false) (C : jr_C p s m #[Value.ref b] c code 8 "KindTablesLaw" lTs D kC (kT cI cII cL cJ) A) (hZ : jr_Z A s s.heap) (hs9 : ∀ q ∈ kS sa, vk_R q.1 q.2.1 q.2.2.1 q.2.2.2 s) (hnc : jNc s) (hX : va_X b L xs s s.heap) (hbl : b < s.heap.size) (hbA : ¬ A b) (h1 : vp_in (x4 + 1) L) (h2 : vp_in (x4 + 2) L) (h3 : vp_in (x4 + 3) L) (h4 : vp_in (x4 + 4) L) (hce : cells ≤ 600000) (hsl : slots ≤ 7000000) (h : wc_0 K F st f sm (xs (Int32.toNatClampNeg (x4 + 1))) (xs (Int32.toNatClampNeg (x4 + 2))) (xs (Int32.toNatClampNeg (x4 + 3))) (xs (Int32.toNatClampNeg (x4 + 4))) cont) (kk : ∀ (st : jS) (f : Nat → Int64) (sm : jS), cont st f sm → jr_J p l e room_1 s m #[Value.ref b] below meth c A D kC 8 (cells + 2) (slots + 12) Q (lV cI cII cL cJ ad am ao K F st f sm) 1696 [(0, .ref b), (1, .ref (ad 0)), (2, .ref (am 0)), (3, .ref ao), (4, .int x4)] []) : jr_J p l e room_1 s m #[Value.ref b] below meth c A D kC 8 cells slots Q (lV cI cII cL cJ ad am ao K F st f sm) 168 [(0, .ref b), (1, .ref (ad 0)), (2, .ref (am 0)), (3, .ref ao), (4, .int x4)] [] := by
  unfold wc_0 at h
  refine jr_aload_n (q := 1) C dLw_main_168 rfl rfl ?_
  refine jr_aload_n (q := 0) C dLw_main_169 rfl rfl ?_
  refine jr_iload (q := 4) C dLw_main_170 rfl ?_
  refine jr_iconst (v := 1) C dLw_main_172 (by decide) ?_
  refine jr_iadd C dLw_main_173 ?_
  refine jr_sld C hX hbl hbA h1 dLw_main_174 ?_
  refine jr_aload_n (q := 3) C dLw_main_175 rfl rfl ?_
  refine jr_callNi (wf := oW cI cII cL cJ ad ao K F (mW cI am [] sm)) (As := [.ref (ad 0), .int (xs (Int32.toNatClampNeg (x4 + 1))), .ref ao]) (rest := []) C hZ hs9 hnc (c_Lw_example hl0 h) (vx_cwSW 3 C.2.2.2.2.1 (tg_SW tm1_190 tm1_191 tm1_0 tm1_192) rfl rfl rfl ⟨by decide, by decide, by decide⟩ ⟨Nat.le_of_ble_eq_true rfl, Nat.le_of_ble_eq_true rfl⟩) dLw_main_176 rfl rfl (Nat.le_of_ble_eq_true rfl) ⟨by show _ ≤ 644430; omega, by show _ ≤ 7162781; omega⟩ (fun r1 u2 h => ?_)
  refine jr_istore (lv' := [(5, .int r1), (0, .ref b), (1, .ref (ad 0)), (2, .ref (am 0)), (3, .ref ao), (4, .int x4)]) C dLw_main_179 (by decide) rfl ?_
  refine jr_aload_n (q := 3) C dLw_main_181 rfl rfl ?_
  refine jr_aload_n (q := 1) C dLw_main_182 rfl rfl ?_
  refine jr_iload (q := 5) C dLw_main_183 rfl ?_
  refine jr_iconst (v := 1) C dLw_main_185 (by decide) ?_
  refine jr_iadd C dLw_main_186 ?_
  refine jr_sld C hX hbl hbA h1 dLw_main_187 ?_
  refine jr_perm (ws' := lM cI cII cL cJ ad am ao K F u2.1 u2.2 sm) lV_P lV_D ?_
  refine jr_callVi (wf := mW cI am (kW cI cII cL ad K F [oC cJ ao u2.2] u2.1)) (As := [.int (xs (Int32.toNatClampNeg (x4 + 1)))]) (rest := []) C (c_Mo_example h) (cwV 1 C.2.2.2.2.1 (tg_V tm3_185 tm3_186 tm3_187 tm1_7 tm3_188) rfl rfl rfl ⟨rfl, by decide, by decide, by decide⟩ ⟨Nat.le_of_ble_eq_true rfl, Nat.le_of_ble_eq_true rfl⟩) dLw_main_188 (rfl : kC[5]? = _) mA_0 rfl rfl (Nat.le_of_ble_eq_true rfl) ⟨by show _ ≤ 644430; omega, by show _ ≤ 7162781; omega⟩ (fun r3 u4 h => ?_)
  refine jr_perm (ws := lM cI cII cL cJ ad am ao K F u2.1 u2.2 u4) (ws' := lV cI cII cL cJ ad am ao K F u2.1 u2.2 u4) lM_P lM_D ?_
  refine jr_istore (lv' := [(6, .int r3), (5, .int r1), (0, .ref b), (1, .ref (ad 0)), (2, .ref (am 0)), (3, .ref ao), (4, .int x4)]) C dLw_main_191 (by decide) rfl ?_
  refine jr_aload_n (q := 4) C dLw_main_193 rfl rfl ?_
  refine jr_perm (ws' := lM cI cII cL cJ ad am ao K F u2.1 u2.2 u4) lV_P lV_D ?_
  refine jr_callVi (wf := mW cI am (kW cI cII cL ad K F [oC cJ ao u2.2] u2.1)) (As := []) (rest := []) C (c_Mo_thrown h) (cwV 0 C.2.2.2.2.1 (tg_V tm3_181 tm3_182 tm3_183 tm1_7 tm3_184) rfl rfl rfl ⟨rfl, by decide, by decide, by decide⟩ ⟨Nat.le_of_ble_eq_true rfl, Nat.le_of_ble_eq_true rfl⟩) dLw_main_194 (rfl : kC[5]? = _) mA_0 rfl rfl (Nat.le_of_ble_eq_true rfl) ⟨by show _ ≤ 644430; omega, by show _ ≤ 7162781; omega⟩ (fun r5 u6 h => ?_)
  refine jr_perm (ws := lM cI cII cL cJ ad am ao K F u2.1 u2.2 u6) (ws' := lV cI cII cL cJ ad am ao K F u2.1 u2.2 u6) lM_P lM_D ?_
  refine jr_iload (q := 1) C dLw_main_197 rfl ?_
  obtain ⟨e7, h⟩ := h
  refine jr_icmp_eq (tgt := 204) C dLw_main_199 (by decide) (fun _ => ?_) (fun q => absurd e7 q)
  refine jr_iload (q := 1) C dLw_main_204 rfl ?_
  refine jr_if_ne (tgt := 221) C dLw_main_206 (by decide) (fun z => ?_) (fun z => ?_)
  · refine jr_goto (tgt := 1696) C dLw_main_221 (by decide) ?_
    refine jr_lv (lv' := [(0, .ref b), (1, .ref (ad 0)), (2, .ref (am 0)), (3, .ref ao), (4, .int x4)]) [2, 3, 4, 5, 6] rfl ?_
    exact kk u2.1 u2.2 u6 h.2
  · refine jr_aload_n (q := 5) C dLw_main_209 rfl rfl ?_
    refine jr_iconst (v := 0) C dLw_main_210 (by decide) ?_
    refine jr_lald (t0 := 3) C dLw_main_211 oA rfl vi_01 ?_
    refine jr_iload (q := 0) C dLw_main_212 rfl ?_
    refine jr_i2l C dLw_main_214 ?_
    refine jr_lcmp C dLw_main_215 ?_
    refine jr_if_eq (tgt := 221) C dLw_main_216 (by decide) (fun _ => ?_) (fun q => absurd ((lg_cmp_eq _ _).mpr (h.1 z)) q)
    refine jr_goto (tgt := 1696) C dLw_main_221 (by decide) ?_
    refine jr_lv (lv' := [(0, .ref b), (1, .ref (ad 0)), (2, .ref (am 0)), (3, .ref ao), (4, .int x4)]) [2, 3, 4, 5, 6] rfl ?_
    exact kk u2.1 u2.2 u6 h.2
def wc_1 (K F : Nat) (st : jS) (f : Nat → Int64) (sm : jS) (a1 : Int32) (a2 : Int32) (a3 : Int32) (a4 : Int32) (cont : jS → (Nat → Int64) → jS → Prop) : Prop :=
  wp_Lw_value K F st f a1 a2 a3 (fun r1 u2 => wp_Mo_value sm a1 a2 a3 (fun r3 u4 => wp_Mo_thrown u4 (fun r5 u6 => r5 = r1 ∧ (r1 = 0 → ((r3 = 0 → u2.2 (Int32.toNatClampNeg 0) = 0) ∧ (¬ r3 = 0 → u2.2 (Int32.toNatClampNeg 0) = 1))) ∧ cont u2.1 u2.2 u6)))
set_option maxRecDepth 100000 in
set_option maxHeartbeats 4000000 in
theorem lc_1 {p : Program} {l : Launch} {e : Env} {s : State} {m : MethodId} {below : List Frame} {meth : Method} {c : Code} {D : va_G} {cI cII cL cJ : ClassId} {ad am sa : Nat → Nat} {ao K F b L cells slots : Nat} {xs : Nat → Int32} {x4 : Int32} {A : Nat → Prop} {Q : State → Prop} {st sm : jS} {f : Nat → Int64} {cont : jS → (Nat → Int64) → jS → Prop} (hl0 : l.stackTraces = false) (C : jr_C p s m #[Value.ref b] c code 8 "KindTablesLaw" lTs D kC (kT cI cII cL cJ) A) (hZ : jr_Z A s s.heap) (hs9 : ∀ q ∈ kS sa, vk_R q.1 q.2.1 q.2.2.1 q.2.2.2 s) (hnc : jNc s) (hX : va_X b L xs s s.heap) (hbl : b < s.heap.size) (hbA : ¬ A b) (h1 : vp_in (x4 + 1) L) (h2 : vp_in (x4 + 2) L) (h3 : vp_in (x4 + 3) L) (h4 : vp_in (x4 + 4) L) (hce : cells ≤ 600000) (hsl : slots ≤ 7000000) (h : wc_1 K F st f sm (xs (Int32.toNatClampNeg (x4 + 1))) (xs (Int32.toNatClampNeg (x4 + 2))) (xs (Int32.toNatClampNeg (x4 + 3))) (xs (Int32.toNatClampNeg (x4 + 4))) cont) (kk : ∀ (st : jS) (f : Nat → Int64) (sm : jS), cont st f sm → jr_J p l e room_1 s m #[Value.ref b] below meth c A D kC 8 (cells + 3) (slots + 18) Q (lV cI cII cL cJ ad am ao K F st f sm) 1696 [(0, .ref b), (1, .ref (ad 0)), (2, .ref (am 0)), (3, .ref ao), (4, .int x4)] []) : jr_J p l e room_1 s m #[Value.ref b] below meth c A D kC 8 cells slots Q (lV cI cII cL cJ ad am ao K F st f sm) 224 [(0, .ref b), (1, .ref (ad 0)), (2, .ref (am 0)), (3, .ref ao), (4, .int x4)] [] := by
  unfold wc_1 at h
  refine jr_aload_n (q := 1) C dLw_main_224 rfl rfl ?_
  refine jr_aload_n (q := 0) C dLw_main_225 rfl rfl ?_
  refine jr_iload (q := 4) C dLw_main_226 rfl ?_
  refine jr_iconst (v := 1) C dLw_main_228 (by decide) ?_
  refine jr_iadd C dLw_main_229 ?_
  refine jr_sld C hX hbl hbA h1 dLw_main_230 ?_
  refine jr_aload_n (q := 0) C dLw_main_231 rfl rfl ?_
  refine jr_iload (q := 4) C dLw_main_232 rfl ?_
  refine jr_iconst (v := 2) C dLw_main_234 (by decide) ?_
  refine jr_iadd C dLw_main_235 ?_
  refine jr_sld C hX hbl hbA h2 dLw_main_236 ?_
  refine jr_aload_n (q := 0) C dLw_main_237 rfl rfl ?_
  refine jr_iload (q := 4) C dLw_main_238 rfl ?_
  refine jr_iconst (v := 3) C dLw_main_240 (by decide) ?_
  refine jr_iadd C dLw_main_241 ?_
  refine jr_sld C hX hbl hbA h3 dLw_main_242 ?_
  refine jr_aload_n (q := 3) C dLw_main_243 rfl rfl ?_
  refine jr_callNi (wf := oW cI cII cL cJ ad ao K F (mW cI am [] sm)) (As := [.ref (ad 0), .int (xs (Int32.toNatClampNeg (x4 + 1))), .int (xs (Int32.toNatClampNeg (x4 + 2))), .int (xs (Int32.toNatClampNeg (x4 + 3))), .ref ao]) (rest := []) C hZ hs9 hnc (c_Lw_value hl0 h) (vx_cwSW 5 C.2.2.2.2.1 (tg_SW tm2_55 tm2_56 tm1_0 tm2_57) rfl rfl rfl ⟨by decide, by decide, by decide⟩ ⟨Nat.le_of_ble_eq_true rfl, Nat.le_of_ble_eq_true rfl⟩) dLw_main_244 rfl rfl (Nat.le_of_ble_eq_true rfl) ⟨by show _ ≤ 644430; omega, by show _ ≤ 7162781; omega⟩ (fun r1 u2 h => ?_)
  refine jr_istore (lv' := [(5, .int r1), (0, .ref b), (1, .ref (ad 0)), (2, .ref (am 0)), (3, .ref ao), (4, .int x4)]) C dLw_main_247 (by decide) rfl ?_
  refine jr_aload_n (q := 3) C dLw_main_249 rfl rfl ?_
  refine jr_aload_n (q := 1) C dLw_main_250 rfl rfl ?_
  refine jr_iload (q := 5) C dLw_main_251 rfl ?_
  refine jr_iconst (v := 1) C dLw_main_253 (by decide) ?_
  refine jr_iadd C dLw_main_254 ?_
  refine jr_sld C hX hbl hbA h1 dLw_main_255 ?_
  refine jr_aload_n (q := 1) C dLw_main_256 rfl rfl ?_
  refine jr_iload (q := 5) C dLw_main_257 rfl ?_
  refine jr_iconst (v := 2) C dLw_main_259 (by decide) ?_
  refine jr_iadd C dLw_main_260 ?_
  refine jr_sld C hX hbl hbA h2 dLw_main_261 ?_
  refine jr_aload_n (q := 1) C dLw_main_262 rfl rfl ?_
  refine jr_iload (q := 5) C dLw_main_263 rfl ?_
  refine jr_iconst (v := 3) C dLw_main_265 (by decide) ?_
  refine jr_iadd C dLw_main_266 ?_
  refine jr_sld C hX hbl hbA h3 dLw_main_267 ?_
  refine jr_perm (ws' := lM cI cII cL cJ ad am ao K F u2.1 u2.2 sm) lV_P lV_D ?_
  refine jr_callVi (wf := mW cI am (kW cI cII cL ad K F [oC cJ ao u2.2] u2.1)) (As := [.int (xs (Int32.toNatClampNeg (x4 + 1))), .int (xs (Int32.toNatClampNeg (x4 + 2))), .int (xs (Int32.toNatClampNeg (x4 + 3)))]) (rest := []) C (c_Mo_value h) (cwV 3 C.2.2.2.2.1 (tg_V tm3_196 tm3_197 tm3_198 tm1_7 tm3_199) rfl rfl rfl ⟨rfl, by decide, by decide, by decide⟩ ⟨Nat.le_of_ble_eq_true rfl, Nat.le_of_ble_eq_true rfl⟩) dLw_main_268 (rfl : kC[5]? = _) mA_0 rfl rfl (Nat.le_of_ble_eq_true rfl) ⟨by show _ ≤ 644430; omega, by show _ ≤ 7162781; omega⟩ (fun r3 u4 h => ?_)
  refine jr_perm (ws := lM cI cII cL cJ ad am ao K F u2.1 u2.2 u4) (ws' := lV cI cII cL cJ ad am ao K F u2.1 u2.2 u4) lM_P lM_D ?_
  refine jr_istore (lv' := [(6, .int r3), (5, .int r1), (0, .ref b), (1, .ref (ad 0)), (2, .ref (am 0)), (3, .ref ao), (4, .int x4)]) C dLw_main_271 (by decide) rfl ?_
  refine jr_aload_n (q := 4) C dLw_main_273 rfl rfl ?_
  refine jr_perm (ws' := lM cI cII cL cJ ad am ao K F u2.1 u2.2 u4) lV_P lV_D ?_
  refine jr_callVi (wf := mW cI am (kW cI cII cL ad K F [oC cJ ao u2.2] u2.1)) (As := []) (rest := []) C (c_Mo_thrown h) (cwV 0 C.2.2.2.2.1 (tg_V tm3_181 tm3_182 tm3_183 tm1_7 tm3_184) rfl rfl rfl ⟨rfl, by decide, by decide, by decide⟩ ⟨Nat.le_of_ble_eq_true rfl, Nat.le_of_ble_eq_true rfl⟩) dLw_main_274 (rfl : kC[5]? = _) mA_0 rfl rfl (Nat.le_of_ble_eq_true rfl) ⟨by show _ ≤ 644430; omega, by show _ ≤ 7162781; omega⟩ (fun r5 u6 h => ?_)
  refine jr_perm (ws := lM cI cII cL cJ ad am ao K F u2.1 u2.2 u6) (ws' := lV cI cII cL cJ ad am ao K F u2.1 u2.2 u6) lM_P lM_D ?_
  refine jr_iload (q := 1) C dLw_main_277 rfl ?_
  obtain ⟨e7, h⟩ := h
  refine jr_icmp_eq (tgt := 284) C dLw_main_279 (by decide) (fun _ => ?_) (fun q => absurd e7 q)
  refine jr_iload (q := 1) C dLw_main_284 rfl ?_
  refine jr_if_ne (tgt := 308) C dLw_main_286 (by decide) (fun z => ?_) (fun z => ?_)
  · refine jr_goto (tgt := 1696) C dLw_main_308 (by decide) ?_
    refine jr_lv (lv' := [(0, .ref b), (1, .ref (ad 0)), (2, .ref (am 0)), (3, .ref ao), (4, .int x4)]) [2, 3, 4, 5, 6] rfl ?_
    exact kk u2.1 u2.2 u6 h.2
  · refine jr_aload_n (q := 5) C dLw_main_289 rfl rfl ?_
    refine jr_iconst (v := 0) C dLw_main_290 (by decide) ?_
    refine jr_lald (t0 := 3) C dLw_main_291 oA rfl vi_01 ?_
    refine jr_iload (q := 0) C dLw_main_292 rfl ?_
    refine jr_if_eq (tgt := 301) C dLw_main_294 (by decide) (fun z2 => ?_) (fun z2 => ?_)
    · refine jr_lconst (v := 0) C dLw_main_301 (by decide) ?_
      refine jr_lcmp C dLw_main_302 ?_
      refine jr_if_eq (tgt := 308) C dLw_main_303 (by decide) (fun _ => ?_) (fun q => absurd ((lg_cmp_eq _ _).mpr ((h.1 z).1 z2)) q)
      refine jr_goto (tgt := 1696) C dLw_main_308 (by decide) ?_
      refine jr_lv (lv' := [(0, .ref b), (1, .ref (ad 0)), (2, .ref (am 0)), (3, .ref ao), (4, .int x4)]) [2, 3, 4, 5, 6] rfl ?_
      exact kk u2.1 u2.2 u6 h.2
    · refine jr_lconst (v := 1) C dLw_main_297 (by decide) ?_
      refine jr_goto (tgt := 302) C dLw_main_298 (by decide) ?_
      refine jr_lcmp C dLw_main_302 ?_
      refine jr_if_eq (tgt := 308) C dLw_main_303 (by decide) (fun _ => ?_) (fun q => absurd ((lg_cmp_eq _ _).mpr ((h.1 z).2 z2)) q)
      refine jr_goto (tgt := 1696) C dLw_main_308 (by decide) ?_
      refine jr_lv (lv' := [(0, .ref b), (1, .ref (ad 0)), (2, .ref (am 0)), (3, .ref ao), (4, .int x4)]) [2, 3, 4, 5, 6] rfl ?_
      exact kk u2.1 u2.2 u6 h.2
def wc_2 (K F : Nat) (st : jS) (f : Nat → Int64) (sm : jS) (a1 : Int32) (a2 : Int32) (a3 : Int32) (a4 : Int32) (cont : jS → (Nat → Int64) → jS → Prop) : Prop :=
  wp_Lw_teach K F st f a1 a2 (fun r1 u2 => wp_Mo_teach sm a1 a2 (fun r3 u4 => wp_Mo_thrown u4 (fun r5 u6 => r5 = r1 ∧ (r1 = 0 → (u2.2 (Int32.toNatClampNeg 0)) = r3.toInt64) ∧ cont u2.1 u2.2 u6)))
set_option maxRecDepth 100000 in
set_option maxHeartbeats 4000000 in
theorem lc_2 {p : Program} {l : Launch} {e : Env} {s : State} {m : MethodId} {below : List Frame} {meth : Method} {c : Code} {D : va_G} {cI cII cL cJ : ClassId} {ad am sa : Nat → Nat} {ao K F b L cells slots : Nat} {xs : Nat → Int32} {x4 : Int32} {A : Nat → Prop} {Q : State → Prop} {st sm : jS} {f : Nat → Int64} {cont : jS → (Nat → Int64) → jS → Prop} (hl0 : l.stackTraces = false) (C : jr_C p s m #[Value.ref b] c code 8 "KindTablesLaw" lTs D kC (kT cI cII cL cJ) A) (hZ : jr_Z A s s.heap) (hs9 : ∀ q ∈ kS sa, vk_R q.1 q.2.1 q.2.2.1 q.2.2.2 s) (hnc : jNc s) (hX : va_X b L xs s s.heap) (hbl : b < s.heap.size) (hbA : ¬ A b) (h1 : vp_in (x4 + 1) L) (h2 : vp_in (x4 + 2) L) (h3 : vp_in (x4 + 3) L) (h4 : vp_in (x4 + 4) L) (hce : cells ≤ 600000) (hsl : slots ≤ 7000000) (h : wc_2 K F st f sm (xs (Int32.toNatClampNeg (x4 + 1))) (xs (Int32.toNatClampNeg (x4 + 2))) (xs (Int32.toNatClampNeg (x4 + 3))) (xs (Int32.toNatClampNeg (x4 + 4))) cont) (kk : ∀ (st : jS) (f : Nat → Int64) (sm : jS), cont st f sm → jr_J p l e room_1 s m #[Value.ref b] below meth c A D kC 8 (cells + 2) (slots + 12) Q (lV cI cII cL cJ ad am ao K F st f sm) 1696 [(0, .ref b), (1, .ref (ad 0)), (2, .ref (am 0)), (3, .ref ao), (4, .int x4)] []) : jr_J p l e room_1 s m #[Value.ref b] below meth c A D kC 8 cells slots Q (lV cI cII cL cJ ad am ao K F st f sm) 311 [(0, .ref b), (1, .ref (ad 0)), (2, .ref (am 0)), (3, .ref ao), (4, .int x4)] [] := by
  unfold wc_2 at h
  refine jr_aload_n (q := 1) C dLw_main_311 rfl rfl ?_
  refine jr_aload_n (q := 0) C dLw_main_312 rfl rfl ?_
  refine jr_iload (q := 4) C dLw_main_313 rfl ?_
  refine jr_iconst (v := 1) C dLw_main_315 (by decide) ?_
  refine jr_iadd C dLw_main_316 ?_
  refine jr_sld C hX hbl hbA h1 dLw_main_317 ?_
  refine jr_aload_n (q := 0) C dLw_main_318 rfl rfl ?_
  refine jr_iload (q := 4) C dLw_main_319 rfl ?_
  refine jr_iconst (v := 2) C dLw_main_321 (by decide) ?_
  refine jr_iadd C dLw_main_322 ?_
  refine jr_sld C hX hbl hbA h2 dLw_main_323 ?_
  refine jr_aload_n (q := 3) C dLw_main_324 rfl rfl ?_
  refine jr_callNi (wf := oW cI cII cL cJ ad ao K F (mW cI am [] sm)) (As := [.ref (ad 0), .int (xs (Int32.toNatClampNeg (x4 + 1))), .int (xs (Int32.toNatClampNeg (x4 + 2))), .ref ao]) (rest := []) C hZ hs9 hnc (c_Lw_teach hl0 h) (vx_cwSW 4 C.2.2.2.2.1 (tg_SW tm2_92 tm2_93 tm1_0 tm2_94) rfl rfl rfl ⟨by decide, by decide, by decide⟩ ⟨Nat.le_of_ble_eq_true rfl, Nat.le_of_ble_eq_true rfl⟩) dLw_main_325 rfl rfl (Nat.le_of_ble_eq_true rfl) ⟨by show _ ≤ 644430; omega, by show _ ≤ 7162781; omega⟩ (fun r1 u2 h => ?_)
  refine jr_istore (lv' := [(5, .int r1), (0, .ref b), (1, .ref (ad 0)), (2, .ref (am 0)), (3, .ref ao), (4, .int x4)]) C dLw_main_328 (by decide) rfl ?_
  refine jr_aload_n (q := 3) C dLw_main_330 rfl rfl ?_
  refine jr_aload_n (q := 1) C dLw_main_331 rfl rfl ?_
  refine jr_iload (q := 5) C dLw_main_332 rfl ?_
  refine jr_iconst (v := 1) C dLw_main_334 (by decide) ?_
  refine jr_iadd C dLw_main_335 ?_
  refine jr_sld C hX hbl hbA h1 dLw_main_336 ?_
  refine jr_aload_n (q := 1) C dLw_main_337 rfl rfl ?_
  refine jr_iload (q := 5) C dLw_main_338 rfl ?_
  refine jr_iconst (v := 2) C dLw_main_340 (by decide) ?_
  refine jr_iadd C dLw_main_341 ?_
  refine jr_sld C hX hbl hbA h2 dLw_main_342 ?_
  refine jr_perm (ws' := lM cI cII cL cJ ad am ao K F u2.1 u2.2 sm) lV_P lV_D ?_
  refine jr_callVi (wf := mW cI am (kW cI cII cL ad K F [oC cJ ao u2.2] u2.1)) (As := [.int (xs (Int32.toNatClampNeg (x4 + 1))), .int (xs (Int32.toNatClampNeg (x4 + 2)))]) (rest := []) C (c_Mo_teach h) (cwV 2 C.2.2.2.2.1 (tg_V tm3_208 tm3_209 tm3_210 tm1_7 tm3_211) rfl rfl rfl ⟨rfl, by decide, by decide, by decide⟩ ⟨Nat.le_of_ble_eq_true rfl, Nat.le_of_ble_eq_true rfl⟩) dLw_main_343 (rfl : kC[5]? = _) mA_0 rfl rfl (Nat.le_of_ble_eq_true rfl) ⟨by show _ ≤ 644430; omega, by show _ ≤ 7162781; omega⟩ (fun r3 u4 h => ?_)
  refine jr_perm (ws := lM cI cII cL cJ ad am ao K F u2.1 u2.2 u4) (ws' := lV cI cII cL cJ ad am ao K F u2.1 u2.2 u4) lM_P lM_D ?_
  refine jr_istore (lv' := [(6, .int r3), (5, .int r1), (0, .ref b), (1, .ref (ad 0)), (2, .ref (am 0)), (3, .ref ao), (4, .int x4)]) C dLw_main_346 (by decide) rfl ?_
  refine jr_aload_n (q := 4) C dLw_main_348 rfl rfl ?_
  refine jr_perm (ws' := lM cI cII cL cJ ad am ao K F u2.1 u2.2 u4) lV_P lV_D ?_
  refine jr_callVi (wf := mW cI am (kW cI cII cL ad K F [oC cJ ao u2.2] u2.1)) (As := []) (rest := []) C (c_Mo_thrown h) (cwV 0 C.2.2.2.2.1 (tg_V tm3_181 tm3_182 tm3_183 tm1_7 tm3_184) rfl rfl rfl ⟨rfl, by decide, by decide, by decide⟩ ⟨Nat.le_of_ble_eq_true rfl, Nat.le_of_ble_eq_true rfl⟩) dLw_main_349 (rfl : kC[5]? = _) mA_0 rfl rfl (Nat.le_of_ble_eq_true rfl) ⟨by show _ ≤ 644430; omega, by show _ ≤ 7162781; omega⟩ (fun r5 u6 h => ?_)
  refine jr_perm (ws := lM cI cII cL cJ ad am ao K F u2.1 u2.2 u6) (ws' := lV cI cII cL cJ ad am ao K F u2.1 u2.2 u6) lM_P lM_D ?_
  refine jr_iload (q := 1) C dLw_main_352 rfl ?_
  obtain ⟨e7, h⟩ := h
  refine jr_icmp_eq (tgt := 359) C dLw_main_354 (by decide) (fun _ => ?_) (fun q => absurd e7 q)
  refine jr_iload (q := 1) C dLw_main_359 rfl ?_
  refine jr_if_ne (tgt := 376) C dLw_main_361 (by decide) (fun z => ?_) (fun z => ?_)
  · refine jr_goto (tgt := 1696) C dLw_main_376 (by decide) ?_
    refine jr_lv (lv' := [(0, .ref b), (1, .ref (ad 0)), (2, .ref (am 0)), (3, .ref ao), (4, .int x4)]) [2, 3, 4, 5, 6] rfl ?_
    exact kk u2.1 u2.2 u6 h.2
  · refine jr_aload_n (q := 5) C dLw_main_364 rfl rfl ?_
    refine jr_iconst (v := 0) C dLw_main_365 (by decide) ?_
    refine jr_lald (t0 := 3) C dLw_main_366 oA rfl vi_01 ?_
    refine jr_iload (q := 0) C dLw_main_367 rfl ?_
    refine jr_i2l C dLw_main_369 ?_
    refine jr_lcmp C dLw_main_370 ?_
    refine jr_if_eq (tgt := 376) C dLw_main_371 (by decide) (fun _ => ?_) (fun q => absurd ((lg_cmp_eq _ _).mpr (h.1 z)) q)
    refine jr_goto (tgt := 1696) C dLw_main_376 (by decide) ?_
    refine jr_lv (lv' := [(0, .ref b), (1, .ref (ad 0)), (2, .ref (am 0)), (3, .ref ao), (4, .int x4)]) [2, 3, 4, 5, 6] rfl ?_
    exact kk u2.1 u2.2 u6 h.2
def wc_3 (K F : Nat) (st : jS) (f : Nat → Int64) (sm : jS) (a1 : Int32) (a2 : Int32) (a3 : Int32) (a4 : Int32) (cont : jS → (Nat → Int64) → jS → Prop) : Prop :=
  wp_Lw_width K F st f a1 a2 (fun r1 u2 => wp_Mo_width sm a1 a2 (fun r3 u4 => wp_Mo_thrown u4 (fun r5 u6 => r5 = r1 ∧ (r1 = 0 → (u2.2 (Int32.toNatClampNeg 0)) = r3.toInt64) ∧ cont u2.1 u2.2 u6)))
set_option maxRecDepth 100000 in
set_option maxHeartbeats 4000000 in
theorem lc_3 {p : Program} {l : Launch} {e : Env} {s : State} {m : MethodId} {below : List Frame} {meth : Method} {c : Code} {D : va_G} {cI cII cL cJ : ClassId} {ad am sa : Nat → Nat} {ao K F b L cells slots : Nat} {xs : Nat → Int32} {x4 : Int32} {A : Nat → Prop} {Q : State → Prop} {st sm : jS} {f : Nat → Int64} {cont : jS → (Nat → Int64) → jS → Prop} (hl0 : l.stackTraces = false) (C : jr_C p s m #[Value.ref b] c code 8 "KindTablesLaw" lTs D kC (kT cI cII cL cJ) A) (hZ : jr_Z A s s.heap) (hs9 : ∀ q ∈ kS sa, vk_R q.1 q.2.1 q.2.2.1 q.2.2.2 s) (hnc : jNc s) (hX : va_X b L xs s s.heap) (hbl : b < s.heap.size) (hbA : ¬ A b) (h1 : vp_in (x4 + 1) L) (h2 : vp_in (x4 + 2) L) (h3 : vp_in (x4 + 3) L) (h4 : vp_in (x4 + 4) L) (hce : cells ≤ 600000) (hsl : slots ≤ 7000000) (h : wc_3 K F st f sm (xs (Int32.toNatClampNeg (x4 + 1))) (xs (Int32.toNatClampNeg (x4 + 2))) (xs (Int32.toNatClampNeg (x4 + 3))) (xs (Int32.toNatClampNeg (x4 + 4))) cont) (kk : ∀ (st : jS) (f : Nat → Int64) (sm : jS), cont st f sm → jr_J p l e room_1 s m #[Value.ref b] below meth c A D kC 8 (cells + 2) (slots + 12) Q (lV cI cII cL cJ ad am ao K F st f sm) 1696 [(0, .ref b), (1, .ref (ad 0)), (2, .ref (am 0)), (3, .ref ao), (4, .int x4)] []) : jr_J p l e room_1 s m #[Value.ref b] below meth c A D kC 8 cells slots Q (lV cI cII cL cJ ad am ao K F st f sm) 379 [(0, .ref b), (1, .ref (ad 0)), (2, .ref (am 0)), (3, .ref ao), (4, .int x4)] [] := by
  unfold wc_3 at h
  refine jr_aload_n (q := 1) C dLw_main_379 rfl rfl ?_
  refine jr_aload_n (q := 0) C dLw_main_380 rfl rfl ?_
  refine jr_iload (q := 4) C dLw_main_381 rfl ?_
  refine jr_iconst (v := 1) C dLw_main_383 (by decide) ?_
  refine jr_iadd C dLw_main_384 ?_
  refine jr_sld C hX hbl hbA h1 dLw_main_385 ?_
  refine jr_aload_n (q := 0) C dLw_main_386 rfl rfl ?_
  refine jr_iload (q := 4) C dLw_main_387 rfl ?_
  refine jr_iconst (v := 2) C dLw_main_389 (by decide) ?_
  refine jr_iadd C dLw_main_390 ?_
  refine jr_sld C hX hbl hbA h2 dLw_main_391 ?_
  refine jr_aload_n (q := 3) C dLw_main_392 rfl rfl ?_
  refine jr_callNi (wf := oW cI cII cL cJ ad ao K F (mW cI am [] sm)) (As := [.ref (ad 0), .int (xs (Int32.toNatClampNeg (x4 + 1))), .int (xs (Int32.toNatClampNeg (x4 + 2))), .ref ao]) (rest := []) C hZ hs9 hnc (c_Lw_width hl0 h) (vx_cwSW 4 C.2.2.2.2.1 (tg_SW tm2_99 tm2_100 tm1_0 tm2_101) rfl rfl rfl ⟨by decide, by decide, by decide⟩ ⟨Nat.le_of_ble_eq_true rfl, Nat.le_of_ble_eq_true rfl⟩) dLw_main_393 rfl rfl (Nat.le_of_ble_eq_true rfl) ⟨by show _ ≤ 644430; omega, by show _ ≤ 7162781; omega⟩ (fun r1 u2 h => ?_)
  refine jr_istore (lv' := [(5, .int r1), (0, .ref b), (1, .ref (ad 0)), (2, .ref (am 0)), (3, .ref ao), (4, .int x4)]) C dLw_main_396 (by decide) rfl ?_
  refine jr_aload_n (q := 3) C dLw_main_398 rfl rfl ?_
  refine jr_aload_n (q := 1) C dLw_main_399 rfl rfl ?_
  refine jr_iload (q := 5) C dLw_main_400 rfl ?_
  refine jr_iconst (v := 1) C dLw_main_402 (by decide) ?_
  refine jr_iadd C dLw_main_403 ?_
  refine jr_sld C hX hbl hbA h1 dLw_main_404 ?_
  refine jr_aload_n (q := 1) C dLw_main_405 rfl rfl ?_
  refine jr_iload (q := 5) C dLw_main_406 rfl ?_
  refine jr_iconst (v := 2) C dLw_main_408 (by decide) ?_
  refine jr_iadd C dLw_main_409 ?_
  refine jr_sld C hX hbl hbA h2 dLw_main_410 ?_
  refine jr_perm (ws' := lM cI cII cL cJ ad am ao K F u2.1 u2.2 sm) lV_P lV_D ?_
  refine jr_callVi (wf := mW cI am (kW cI cII cL ad K F [oC cJ ao u2.2] u2.1)) (As := [.int (xs (Int32.toNatClampNeg (x4 + 1))), .int (xs (Int32.toNatClampNeg (x4 + 2)))]) (rest := []) C (c_Mo_width h) (cwV 2 C.2.2.2.2.1 (tg_V tm3_212 tm3_213 tm3_214 tm1_7 tm3_215) rfl rfl rfl ⟨rfl, by decide, by decide, by decide⟩ ⟨Nat.le_of_ble_eq_true rfl, Nat.le_of_ble_eq_true rfl⟩) dLw_main_411 (rfl : kC[5]? = _) mA_0 rfl rfl (Nat.le_of_ble_eq_true rfl) ⟨by show _ ≤ 644430; omega, by show _ ≤ 7162781; omega⟩ (fun r3 u4 h => ?_)
  refine jr_perm (ws := lM cI cII cL cJ ad am ao K F u2.1 u2.2 u4) (ws' := lV cI cII cL cJ ad am ao K F u2.1 u2.2 u4) lM_P lM_D ?_
  refine jr_istore (lv' := [(6, .int r3), (5, .int r1), (0, .ref b), (1, .ref (ad 0)), (2, .ref (am 0)), (3, .ref ao), (4, .int x4)]) C dLw_main_414 (by decide) rfl ?_
  refine jr_aload_n (q := 4) C dLw_main_416 rfl rfl ?_
  refine jr_perm (ws' := lM cI cII cL cJ ad am ao K F u2.1 u2.2 u4) lV_P lV_D ?_
  refine jr_callVi (wf := mW cI am (kW cI cII cL ad K F [oC cJ ao u2.2] u2.1)) (As := []) (rest := []) C (c_Mo_thrown h) (cwV 0 C.2.2.2.2.1 (tg_V tm3_181 tm3_182 tm3_183 tm1_7 tm3_184) rfl rfl rfl ⟨rfl, by decide, by decide, by decide⟩ ⟨Nat.le_of_ble_eq_true rfl, Nat.le_of_ble_eq_true rfl⟩) dLw_main_417 (rfl : kC[5]? = _) mA_0 rfl rfl (Nat.le_of_ble_eq_true rfl) ⟨by show _ ≤ 644430; omega, by show _ ≤ 7162781; omega⟩ (fun r5 u6 h => ?_)
  refine jr_perm (ws := lM cI cII cL cJ ad am ao K F u2.1 u2.2 u6) (ws' := lV cI cII cL cJ ad am ao K F u2.1 u2.2 u6) lM_P lM_D ?_
  refine jr_iload (q := 1) C dLw_main_420 rfl ?_
  obtain ⟨e7, h⟩ := h
  refine jr_icmp_eq (tgt := 427) C dLw_main_422 (by decide) (fun _ => ?_) (fun q => absurd e7 q)
  refine jr_iload (q := 1) C dLw_main_427 rfl ?_
  refine jr_if_ne (tgt := 444) C dLw_main_429 (by decide) (fun z => ?_) (fun z => ?_)
  · refine jr_goto (tgt := 1696) C dLw_main_444 (by decide) ?_
    refine jr_lv (lv' := [(0, .ref b), (1, .ref (ad 0)), (2, .ref (am 0)), (3, .ref ao), (4, .int x4)]) [2, 3, 4, 5, 6] rfl ?_
    exact kk u2.1 u2.2 u6 h.2
  · refine jr_aload_n (q := 5) C dLw_main_432 rfl rfl ?_
    refine jr_iconst (v := 0) C dLw_main_433 (by decide) ?_
    refine jr_lald (t0 := 3) C dLw_main_434 oA rfl vi_01 ?_
    refine jr_iload (q := 0) C dLw_main_435 rfl ?_
    refine jr_i2l C dLw_main_437 ?_
    refine jr_lcmp C dLw_main_438 ?_
    refine jr_if_eq (tgt := 444) C dLw_main_439 (by decide) (fun _ => ?_) (fun q => absurd ((lg_cmp_eq _ _).mpr (h.1 z)) q)
    refine jr_goto (tgt := 1696) C dLw_main_444 (by decide) ?_
    refine jr_lv (lv' := [(0, .ref b), (1, .ref (ad 0)), (2, .ref (am 0)), (3, .ref ao), (4, .int x4)]) [2, 3, 4, 5, 6] rfl ?_
    exact kk u2.1 u2.2 u6 h.2
def wc_4 (K F : Nat) (st : jS) (f : Nat → Int64) (sm : jS) (a1 : Int32) (a2 : Int32) (a3 : Int32) (a4 : Int32) (cont : jS → (Nat → Int64) → jS → Prop) : Prop :=
  wp_Lw_cell K F st f a1 a2 (fun r1 u2 => wp_Mo_cell sm a1 a2 (fun r3 u4 => wp_Mo_thrown u4 (fun r5 u6 => r5 = r1 ∧ (r1 = 0 → (u2.2 (Int32.toNatClampNeg 0)) = r3.toInt64) ∧ cont u2.1 u2.2 u6)))
set_option maxRecDepth 100000 in
set_option maxHeartbeats 4000000 in
theorem lc_4 {p : Program} {l : Launch} {e : Env} {s : State} {m : MethodId} {below : List Frame} {meth : Method} {c : Code} {D : va_G} {cI cII cL cJ : ClassId} {ad am sa : Nat → Nat} {ao K F b L cells slots : Nat} {xs : Nat → Int32} {x4 : Int32} {A : Nat → Prop} {Q : State → Prop} {st sm : jS} {f : Nat → Int64} {cont : jS → (Nat → Int64) → jS → Prop} (hl0 : l.stackTraces = false) (C : jr_C p s m #[Value.ref b] c code 8 "KindTablesLaw" lTs D kC (kT cI cII cL cJ) A) (hZ : jr_Z A s s.heap) (hs9 : ∀ q ∈ kS sa, vk_R q.1 q.2.1 q.2.2.1 q.2.2.2 s) (hnc : jNc s) (hX : va_X b L xs s s.heap) (hbl : b < s.heap.size) (hbA : ¬ A b) (h1 : vp_in (x4 + 1) L) (h2 : vp_in (x4 + 2) L) (h3 : vp_in (x4 + 3) L) (h4 : vp_in (x4 + 4) L) (hce : cells ≤ 600000) (hsl : slots ≤ 7000000) (h : wc_4 K F st f sm (xs (Int32.toNatClampNeg (x4 + 1))) (xs (Int32.toNatClampNeg (x4 + 2))) (xs (Int32.toNatClampNeg (x4 + 3))) (xs (Int32.toNatClampNeg (x4 + 4))) cont) (kk : ∀ (st : jS) (f : Nat → Int64) (sm : jS), cont st f sm → jr_J p l e room_1 s m #[Value.ref b] below meth c A D kC 8 (cells + 2) (slots + 12) Q (lV cI cII cL cJ ad am ao K F st f sm) 1696 [(0, .ref b), (1, .ref (ad 0)), (2, .ref (am 0)), (3, .ref ao), (4, .int x4)] []) : jr_J p l e room_1 s m #[Value.ref b] below meth c A D kC 8 cells slots Q (lV cI cII cL cJ ad am ao K F st f sm) 447 [(0, .ref b), (1, .ref (ad 0)), (2, .ref (am 0)), (3, .ref ao), (4, .int x4)] [] := by
  unfold wc_4 at h
  refine jr_aload_n (q := 1) C dLw_main_447 rfl rfl ?_
  refine jr_aload_n (q := 0) C dLw_main_448 rfl rfl ?_
  refine jr_iload (q := 4) C dLw_main_449 rfl ?_
  refine jr_iconst (v := 1) C dLw_main_451 (by decide) ?_
  refine jr_iadd C dLw_main_452 ?_
  refine jr_sld C hX hbl hbA h1 dLw_main_453 ?_
  refine jr_aload_n (q := 0) C dLw_main_454 rfl rfl ?_
  refine jr_iload (q := 4) C dLw_main_455 rfl ?_
  refine jr_iconst (v := 2) C dLw_main_457 (by decide) ?_
  refine jr_iadd C dLw_main_458 ?_
  refine jr_sld C hX hbl hbA h2 dLw_main_459 ?_
  refine jr_aload_n (q := 3) C dLw_main_460 rfl rfl ?_
  refine jr_callNi (wf := oW cI cII cL cJ ad ao K F (mW cI am [] sm)) (As := [.ref (ad 0), .int (xs (Int32.toNatClampNeg (x4 + 1))), .int (xs (Int32.toNatClampNeg (x4 + 2))), .ref ao]) (rest := []) C hZ hs9 hnc (c_Lw_cell hl0 h) (vx_cwSW 4 C.2.2.2.2.1 (tg_SW tm2_106 tm2_107 tm1_0 tm2_108) rfl rfl rfl ⟨by decide, by decide, by decide⟩ ⟨Nat.le_of_ble_eq_true rfl, Nat.le_of_ble_eq_true rfl⟩) dLw_main_461 rfl rfl (Nat.le_of_ble_eq_true rfl) ⟨by show _ ≤ 644430; omega, by show _ ≤ 7162781; omega⟩ (fun r1 u2 h => ?_)
  refine jr_istore (lv' := [(5, .int r1), (0, .ref b), (1, .ref (ad 0)), (2, .ref (am 0)), (3, .ref ao), (4, .int x4)]) C dLw_main_464 (by decide) rfl ?_
  refine jr_aload_n (q := 3) C dLw_main_466 rfl rfl ?_
  refine jr_aload_n (q := 1) C dLw_main_467 rfl rfl ?_
  refine jr_iload (q := 5) C dLw_main_468 rfl ?_
  refine jr_iconst (v := 1) C dLw_main_470 (by decide) ?_
  refine jr_iadd C dLw_main_471 ?_
  refine jr_sld C hX hbl hbA h1 dLw_main_472 ?_
  refine jr_aload_n (q := 1) C dLw_main_473 rfl rfl ?_
  refine jr_iload (q := 5) C dLw_main_474 rfl ?_
  refine jr_iconst (v := 2) C dLw_main_476 (by decide) ?_
  refine jr_iadd C dLw_main_477 ?_
  refine jr_sld C hX hbl hbA h2 dLw_main_478 ?_
  refine jr_perm (ws' := lM cI cII cL cJ ad am ao K F u2.1 u2.2 sm) lV_P lV_D ?_
  refine jr_callVi (wf := mW cI am (kW cI cII cL ad K F [oC cJ ao u2.2] u2.1)) (As := [.int (xs (Int32.toNatClampNeg (x4 + 1))), .int (xs (Int32.toNatClampNeg (x4 + 2)))]) (rest := []) C (c_Mo_cell h) (cwV 2 C.2.2.2.2.1 (tg_V tm3_216 tm3_217 tm3_218 tm1_7 tm3_219) rfl rfl rfl ⟨rfl, by decide, by decide, by decide⟩ ⟨Nat.le_of_ble_eq_true rfl, Nat.le_of_ble_eq_true rfl⟩) dLw_main_479 (rfl : kC[5]? = _) mA_0 rfl rfl (Nat.le_of_ble_eq_true rfl) ⟨by show _ ≤ 644430; omega, by show _ ≤ 7162781; omega⟩ (fun r3 u4 h => ?_)
  refine jr_perm (ws := lM cI cII cL cJ ad am ao K F u2.1 u2.2 u4) (ws' := lV cI cII cL cJ ad am ao K F u2.1 u2.2 u4) lM_P lM_D ?_
  refine jr_istore (lv' := [(6, .int r3), (5, .int r1), (0, .ref b), (1, .ref (ad 0)), (2, .ref (am 0)), (3, .ref ao), (4, .int x4)]) C dLw_main_482 (by decide) rfl ?_
  refine jr_aload_n (q := 4) C dLw_main_484 rfl rfl ?_
  refine jr_perm (ws' := lM cI cII cL cJ ad am ao K F u2.1 u2.2 u4) lV_P lV_D ?_
  refine jr_callVi (wf := mW cI am (kW cI cII cL ad K F [oC cJ ao u2.2] u2.1)) (As := []) (rest := []) C (c_Mo_thrown h) (cwV 0 C.2.2.2.2.1 (tg_V tm3_181 tm3_182 tm3_183 tm1_7 tm3_184) rfl rfl rfl ⟨rfl, by decide, by decide, by decide⟩ ⟨Nat.le_of_ble_eq_true rfl, Nat.le_of_ble_eq_true rfl⟩) dLw_main_485 (rfl : kC[5]? = _) mA_0 rfl rfl (Nat.le_of_ble_eq_true rfl) ⟨by show _ ≤ 644430; omega, by show _ ≤ 7162781; omega⟩ (fun r5 u6 h => ?_)
  refine jr_perm (ws := lM cI cII cL cJ ad am ao K F u2.1 u2.2 u6) (ws' := lV cI cII cL cJ ad am ao K F u2.1 u2.2 u6) lM_P lM_D ?_
  refine jr_iload (q := 1) C dLw_main_488 rfl ?_
  obtain ⟨e7, h⟩ := h
  refine jr_icmp_eq (tgt := 495) C dLw_main_490 (by decide) (fun _ => ?_) (fun q => absurd e7 q)
  refine jr_iload (q := 1) C dLw_main_495 rfl ?_
  refine jr_if_ne (tgt := 512) C dLw_main_497 (by decide) (fun z => ?_) (fun z => ?_)
  · refine jr_goto (tgt := 1696) C dLw_main_512 (by decide) ?_
    refine jr_lv (lv' := [(0, .ref b), (1, .ref (ad 0)), (2, .ref (am 0)), (3, .ref ao), (4, .int x4)]) [2, 3, 4, 5, 6] rfl ?_
    exact kk u2.1 u2.2 u6 h.2
  · refine jr_aload_n (q := 5) C dLw_main_500 rfl rfl ?_
    refine jr_iconst (v := 0) C dLw_main_501 (by decide) ?_
    refine jr_lald (t0 := 3) C dLw_main_502 oA rfl vi_01 ?_
    refine jr_iload (q := 0) C dLw_main_503 rfl ?_
    refine jr_i2l C dLw_main_505 ?_
    refine jr_lcmp C dLw_main_506 ?_
    refine jr_if_eq (tgt := 512) C dLw_main_507 (by decide) (fun _ => ?_) (fun q => absurd ((lg_cmp_eq _ _).mpr (h.1 z)) q)
    refine jr_goto (tgt := 1696) C dLw_main_512 (by decide) ?_
    refine jr_lv (lv' := [(0, .ref b), (1, .ref (ad 0)), (2, .ref (am 0)), (3, .ref ao), (4, .int x4)]) [2, 3, 4, 5, 6] rfl ?_
    exact kk u2.1 u2.2 u6 h.2
def wc_5 (K F : Nat) (st : jS) (f : Nat → Int64) (sm : jS) (a1 : Int32) (a2 : Int32) (a3 : Int32) (a4 : Int32) (cont : jS → (Nat → Int64) → jS → Prop) : Prop :=
  wp_Lw_votes K F st f a1 a2 (fun r1 u2 => wp_Mo_votes sm a1 a2 (fun r3 u4 => wp_Mo_thrown u4 (fun r5 u6 => r5 = r1 ∧ (r1 = 0 → (u2.2 (Int32.toNatClampNeg 0)) = r3.toInt64) ∧ cont u2.1 u2.2 u6)))
set_option maxRecDepth 100000 in
set_option maxHeartbeats 4000000 in
theorem lc_5 {p : Program} {l : Launch} {e : Env} {s : State} {m : MethodId} {below : List Frame} {meth : Method} {c : Code} {D : va_G} {cI cII cL cJ : ClassId} {ad am sa : Nat → Nat} {ao K F b L cells slots : Nat} {xs : Nat → Int32} {x4 : Int32} {A : Nat → Prop} {Q : State → Prop} {st sm : jS} {f : Nat → Int64} {cont : jS → (Nat → Int64) → jS → Prop} (hl0 : l.stackTraces = false) (C : jr_C p s m #[Value.ref b] c code 8 "KindTablesLaw" lTs D kC (kT cI cII cL cJ) A) (hZ : jr_Z A s s.heap) (hs9 : ∀ q ∈ kS sa, vk_R q.1 q.2.1 q.2.2.1 q.2.2.2 s) (hnc : jNc s) (hX : va_X b L xs s s.heap) (hbl : b < s.heap.size) (hbA : ¬ A b) (h1 : vp_in (x4 + 1) L) (h2 : vp_in (x4 + 2) L) (h3 : vp_in (x4 + 3) L) (h4 : vp_in (x4 + 4) L) (hce : cells ≤ 600000) (hsl : slots ≤ 7000000) (h : wc_5 K F st f sm (xs (Int32.toNatClampNeg (x4 + 1))) (xs (Int32.toNatClampNeg (x4 + 2))) (xs (Int32.toNatClampNeg (x4 + 3))) (xs (Int32.toNatClampNeg (x4 + 4))) cont) (kk : ∀ (st : jS) (f : Nat → Int64) (sm : jS), cont st f sm → jr_J p l e room_1 s m #[Value.ref b] below meth c A D kC 8 (cells + 2) (slots + 12) Q (lV cI cII cL cJ ad am ao K F st f sm) 1696 [(0, .ref b), (1, .ref (ad 0)), (2, .ref (am 0)), (3, .ref ao), (4, .int x4)] []) : jr_J p l e room_1 s m #[Value.ref b] below meth c A D kC 8 cells slots Q (lV cI cII cL cJ ad am ao K F st f sm) 515 [(0, .ref b), (1, .ref (ad 0)), (2, .ref (am 0)), (3, .ref ao), (4, .int x4)] [] := by
  unfold wc_5 at h
  refine jr_aload_n (q := 1) C dLw_main_515 rfl rfl ?_
  refine jr_aload_n (q := 0) C dLw_main_516 rfl rfl ?_
  refine jr_iload (q := 4) C dLw_main_517 rfl ?_
  refine jr_iconst (v := 1) C dLw_main_519 (by decide) ?_
  refine jr_iadd C dLw_main_520 ?_
  refine jr_sld C hX hbl hbA h1 dLw_main_521 ?_
  refine jr_aload_n (q := 0) C dLw_main_522 rfl rfl ?_
  refine jr_iload (q := 4) C dLw_main_523 rfl ?_
  refine jr_iconst (v := 2) C dLw_main_525 (by decide) ?_
  refine jr_iadd C dLw_main_526 ?_
  refine jr_sld C hX hbl hbA h2 dLw_main_527 ?_
  refine jr_aload_n (q := 3) C dLw_main_528 rfl rfl ?_
  refine jr_callNi (wf := oW cI cII cL cJ ad ao K F (mW cI am [] sm)) (As := [.ref (ad 0), .int (xs (Int32.toNatClampNeg (x4 + 1))), .int (xs (Int32.toNatClampNeg (x4 + 2))), .ref ao]) (rest := []) C hZ hs9 hnc (c_Lw_votes hl0 h) (vx_cwSW 4 C.2.2.2.2.1 (tg_SW tm2_114 tm2_115 tm1_0 tm2_116) rfl rfl rfl ⟨by decide, by decide, by decide⟩ ⟨Nat.le_of_ble_eq_true rfl, Nat.le_of_ble_eq_true rfl⟩) dLw_main_529 rfl rfl (Nat.le_of_ble_eq_true rfl) ⟨by show _ ≤ 644430; omega, by show _ ≤ 7162781; omega⟩ (fun r1 u2 h => ?_)
  refine jr_istore (lv' := [(5, .int r1), (0, .ref b), (1, .ref (ad 0)), (2, .ref (am 0)), (3, .ref ao), (4, .int x4)]) C dLw_main_532 (by decide) rfl ?_
  refine jr_aload_n (q := 3) C dLw_main_534 rfl rfl ?_
  refine jr_aload_n (q := 1) C dLw_main_535 rfl rfl ?_
  refine jr_iload (q := 5) C dLw_main_536 rfl ?_
  refine jr_iconst (v := 1) C dLw_main_538 (by decide) ?_
  refine jr_iadd C dLw_main_539 ?_
  refine jr_sld C hX hbl hbA h1 dLw_main_540 ?_
  refine jr_aload_n (q := 1) C dLw_main_541 rfl rfl ?_
  refine jr_iload (q := 5) C dLw_main_542 rfl ?_
  refine jr_iconst (v := 2) C dLw_main_544 (by decide) ?_
  refine jr_iadd C dLw_main_545 ?_
  refine jr_sld C hX hbl hbA h2 dLw_main_546 ?_
  refine jr_perm (ws' := lM cI cII cL cJ ad am ao K F u2.1 u2.2 sm) lV_P lV_D ?_
  refine jr_callVi (wf := mW cI am (kW cI cII cL ad K F [oC cJ ao u2.2] u2.1)) (As := [.int (xs (Int32.toNatClampNeg (x4 + 1))), .int (xs (Int32.toNatClampNeg (x4 + 2)))]) (rest := []) C (c_Mo_votes h) (cwV 2 C.2.2.2.2.1 (tg_V tm3_224 tm3_225 tm3_226 tm1_7 tm3_227) rfl rfl rfl ⟨rfl, by decide, by decide, by decide⟩ ⟨Nat.le_of_ble_eq_true rfl, Nat.le_of_ble_eq_true rfl⟩) dLw_main_547 (rfl : kC[5]? = _) mA_0 rfl rfl (Nat.le_of_ble_eq_true rfl) ⟨by show _ ≤ 644430; omega, by show _ ≤ 7162781; omega⟩ (fun r3 u4 h => ?_)
  refine jr_perm (ws := lM cI cII cL cJ ad am ao K F u2.1 u2.2 u4) (ws' := lV cI cII cL cJ ad am ao K F u2.1 u2.2 u4) lM_P lM_D ?_
  refine jr_istore (lv' := [(6, .int r3), (5, .int r1), (0, .ref b), (1, .ref (ad 0)), (2, .ref (am 0)), (3, .ref ao), (4, .int x4)]) C dLw_main_550 (by decide) rfl ?_
  refine jr_aload_n (q := 4) C dLw_main_552 rfl rfl ?_
  refine jr_perm (ws' := lM cI cII cL cJ ad am ao K F u2.1 u2.2 u4) lV_P lV_D ?_
  refine jr_callVi (wf := mW cI am (kW cI cII cL ad K F [oC cJ ao u2.2] u2.1)) (As := []) (rest := []) C (c_Mo_thrown h) (cwV 0 C.2.2.2.2.1 (tg_V tm3_181 tm3_182 tm3_183 tm1_7 tm3_184) rfl rfl rfl ⟨rfl, by decide, by decide, by decide⟩ ⟨Nat.le_of_ble_eq_true rfl, Nat.le_of_ble_eq_true rfl⟩) dLw_main_553 (rfl : kC[5]? = _) mA_0 rfl rfl (Nat.le_of_ble_eq_true rfl) ⟨by show _ ≤ 644430; omega, by show _ ≤ 7162781; omega⟩ (fun r5 u6 h => ?_)
  refine jr_perm (ws := lM cI cII cL cJ ad am ao K F u2.1 u2.2 u6) (ws' := lV cI cII cL cJ ad am ao K F u2.1 u2.2 u6) lM_P lM_D ?_
  refine jr_iload (q := 1) C dLw_main_556 rfl ?_
  obtain ⟨e7, h⟩ := h
  refine jr_icmp_eq (tgt := 563) C dLw_main_558 (by decide) (fun _ => ?_) (fun q => absurd e7 q)
  refine jr_iload (q := 1) C dLw_main_563 rfl ?_
  refine jr_if_ne (tgt := 580) C dLw_main_565 (by decide) (fun z => ?_) (fun z => ?_)
  · refine jr_goto (tgt := 1696) C dLw_main_580 (by decide) ?_
    refine jr_lv (lv' := [(0, .ref b), (1, .ref (ad 0)), (2, .ref (am 0)), (3, .ref ao), (4, .int x4)]) [2, 3, 4, 5, 6] rfl ?_
    exact kk u2.1 u2.2 u6 h.2
  · refine jr_aload_n (q := 5) C dLw_main_568 rfl rfl ?_
    refine jr_iconst (v := 0) C dLw_main_569 (by decide) ?_
    refine jr_lald (t0 := 3) C dLw_main_570 oA rfl vi_01 ?_
    refine jr_iload (q := 0) C dLw_main_571 rfl ?_
    refine jr_i2l C dLw_main_573 ?_
    refine jr_lcmp C dLw_main_574 ?_
    refine jr_if_eq (tgt := 580) C dLw_main_575 (by decide) (fun _ => ?_) (fun q => absurd ((lg_cmp_eq _ _).mpr (h.1 z)) q)
    refine jr_goto (tgt := 1696) C dLw_main_580 (by decide) ?_
    refine jr_lv (lv' := [(0, .ref b), (1, .ref (ad 0)), (2, .ref (am 0)), (3, .ref ao), (4, .int x4)]) [2, 3, 4, 5, 6] rfl ?_
    exact kk u2.1 u2.2 u6 h.2
def wc_6 (K F : Nat) (st : jS) (f : Nat → Int64) (sm : jS) (a1 : Int32) (a2 : Int32) (a3 : Int32) (a4 : Int32) (cont : jS → (Nat → Int64) → jS → Prop) : Prop :=
  wp_Lw_tell K F st f a1 (fun r1 u2 => wp_Mo_tell sm a1 (fun r3 u4 => wp_Mo_thrown u4 (fun r5 u6 => r5 = r1 ∧ (r1 = 0 → (u2.2 (Int32.toNatClampNeg 0)) = r3.toInt64) ∧ cont u2.1 u2.2 u6)))
set_option maxRecDepth 100000 in
set_option maxHeartbeats 4000000 in
theorem lc_6 {p : Program} {l : Launch} {e : Env} {s : State} {m : MethodId} {below : List Frame} {meth : Method} {c : Code} {D : va_G} {cI cII cL cJ : ClassId} {ad am sa : Nat → Nat} {ao K F b L cells slots : Nat} {xs : Nat → Int32} {x4 : Int32} {A : Nat → Prop} {Q : State → Prop} {st sm : jS} {f : Nat → Int64} {cont : jS → (Nat → Int64) → jS → Prop} (hl0 : l.stackTraces = false) (C : jr_C p s m #[Value.ref b] c code 8 "KindTablesLaw" lTs D kC (kT cI cII cL cJ) A) (hZ : jr_Z A s s.heap) (hs9 : ∀ q ∈ kS sa, vk_R q.1 q.2.1 q.2.2.1 q.2.2.2 s) (hnc : jNc s) (hX : va_X b L xs s s.heap) (hbl : b < s.heap.size) (hbA : ¬ A b) (h1 : vp_in (x4 + 1) L) (h2 : vp_in (x4 + 2) L) (h3 : vp_in (x4 + 3) L) (h4 : vp_in (x4 + 4) L) (hce : cells ≤ 600000) (hsl : slots ≤ 7000000) (h : wc_6 K F st f sm (xs (Int32.toNatClampNeg (x4 + 1))) (xs (Int32.toNatClampNeg (x4 + 2))) (xs (Int32.toNatClampNeg (x4 + 3))) (xs (Int32.toNatClampNeg (x4 + 4))) cont) (kk : ∀ (st : jS) (f : Nat → Int64) (sm : jS), cont st f sm → jr_J p l e room_1 s m #[Value.ref b] below meth c A D kC 8 (cells + 1) (slots + 6) Q (lV cI cII cL cJ ad am ao K F st f sm) 1696 [(0, .ref b), (1, .ref (ad 0)), (2, .ref (am 0)), (3, .ref ao), (4, .int x4)] []) : jr_J p l e room_1 s m #[Value.ref b] below meth c A D kC 8 cells slots Q (lV cI cII cL cJ ad am ao K F st f sm) 583 [(0, .ref b), (1, .ref (ad 0)), (2, .ref (am 0)), (3, .ref ao), (4, .int x4)] [] := by
  unfold wc_6 at h
  refine jr_aload_n (q := 1) C dLw_main_583 rfl rfl ?_
  refine jr_aload_n (q := 0) C dLw_main_584 rfl rfl ?_
  refine jr_iload (q := 4) C dLw_main_585 rfl ?_
  refine jr_iconst (v := 1) C dLw_main_587 (by decide) ?_
  refine jr_iadd C dLw_main_588 ?_
  refine jr_sld C hX hbl hbA h1 dLw_main_589 ?_
  refine jr_aload_n (q := 3) C dLw_main_590 rfl rfl ?_
  refine jr_callNi (wf := oW cI cII cL cJ ad ao K F (mW cI am [] sm)) (As := [.ref (ad 0), .int (xs (Int32.toNatClampNeg (x4 + 1))), .ref ao]) (rest := []) C hZ hs9 hnc (c_Lw_tell hl0 h) (vx_cwSW 3 C.2.2.2.2.1 (tg_SW tm2_125 tm2_126 tm1_0 tm2_127) rfl rfl rfl ⟨by decide, by decide, by decide⟩ ⟨Nat.le_of_ble_eq_true rfl, Nat.le_of_ble_eq_true rfl⟩) dLw_main_591 rfl rfl (Nat.le_of_ble_eq_true rfl) ⟨by show _ ≤ 644430; omega, by show _ ≤ 7162781; omega⟩ (fun r1 u2 h => ?_)
  refine jr_istore (lv' := [(5, .int r1), (0, .ref b), (1, .ref (ad 0)), (2, .ref (am 0)), (3, .ref ao), (4, .int x4)]) C dLw_main_594 (by decide) rfl ?_
  refine jr_aload_n (q := 3) C dLw_main_596 rfl rfl ?_
  refine jr_aload_n (q := 1) C dLw_main_597 rfl rfl ?_
  refine jr_iload (q := 5) C dLw_main_598 rfl ?_
  refine jr_iconst (v := 1) C dLw_main_600 (by decide) ?_
  refine jr_iadd C dLw_main_601 ?_
  refine jr_sld C hX hbl hbA h1 dLw_main_602 ?_
  refine jr_perm (ws' := lM cI cII cL cJ ad am ao K F u2.1 u2.2 sm) lV_P lV_D ?_
  refine jr_callVi (wf := mW cI am (kW cI cII cL ad K F [oC cJ ao u2.2] u2.1)) (As := [.int (xs (Int32.toNatClampNeg (x4 + 1)))]) (rest := []) C (c_Mo_tell h) (cwV 1 C.2.2.2.2.1 (tg_V tm3_232 tm3_233 tm3_234 tm1_7 tm3_235) rfl rfl rfl ⟨rfl, by decide, by decide, by decide⟩ ⟨Nat.le_of_ble_eq_true rfl, Nat.le_of_ble_eq_true rfl⟩) dLw_main_603 (rfl : kC[5]? = _) mA_0 rfl rfl (Nat.le_of_ble_eq_true rfl) ⟨by show _ ≤ 644430; omega, by show _ ≤ 7162781; omega⟩ (fun r3 u4 h => ?_)
  refine jr_perm (ws := lM cI cII cL cJ ad am ao K F u2.1 u2.2 u4) (ws' := lV cI cII cL cJ ad am ao K F u2.1 u2.2 u4) lM_P lM_D ?_
  refine jr_istore (lv' := [(6, .int r3), (5, .int r1), (0, .ref b), (1, .ref (ad 0)), (2, .ref (am 0)), (3, .ref ao), (4, .int x4)]) C dLw_main_606 (by decide) rfl ?_
  refine jr_aload_n (q := 4) C dLw_main_608 rfl rfl ?_
  refine jr_perm (ws' := lM cI cII cL cJ ad am ao K F u2.1 u2.2 u4) lV_P lV_D ?_
  refine jr_callVi (wf := mW cI am (kW cI cII cL ad K F [oC cJ ao u2.2] u2.1)) (As := []) (rest := []) C (c_Mo_thrown h) (cwV 0 C.2.2.2.2.1 (tg_V tm3_181 tm3_182 tm3_183 tm1_7 tm3_184) rfl rfl rfl ⟨rfl, by decide, by decide, by decide⟩ ⟨Nat.le_of_ble_eq_true rfl, Nat.le_of_ble_eq_true rfl⟩) dLw_main_609 (rfl : kC[5]? = _) mA_0 rfl rfl (Nat.le_of_ble_eq_true rfl) ⟨by show _ ≤ 644430; omega, by show _ ≤ 7162781; omega⟩ (fun r5 u6 h => ?_)
  refine jr_perm (ws := lM cI cII cL cJ ad am ao K F u2.1 u2.2 u6) (ws' := lV cI cII cL cJ ad am ao K F u2.1 u2.2 u6) lM_P lM_D ?_
  refine jr_iload (q := 1) C dLw_main_612 rfl ?_
  obtain ⟨e7, h⟩ := h
  refine jr_icmp_eq (tgt := 619) C dLw_main_614 (by decide) (fun _ => ?_) (fun q => absurd e7 q)
  refine jr_iload (q := 1) C dLw_main_619 rfl ?_
  refine jr_if_ne (tgt := 636) C dLw_main_621 (by decide) (fun z => ?_) (fun z => ?_)
  · refine jr_goto (tgt := 1696) C dLw_main_636 (by decide) ?_
    refine jr_lv (lv' := [(0, .ref b), (1, .ref (ad 0)), (2, .ref (am 0)), (3, .ref ao), (4, .int x4)]) [2, 3, 4, 5, 6] rfl ?_
    exact kk u2.1 u2.2 u6 h.2
  · refine jr_aload_n (q := 5) C dLw_main_624 rfl rfl ?_
    refine jr_iconst (v := 0) C dLw_main_625 (by decide) ?_
    refine jr_lald (t0 := 3) C dLw_main_626 oA rfl vi_01 ?_
    refine jr_iload (q := 0) C dLw_main_627 rfl ?_
    refine jr_i2l C dLw_main_629 ?_
    refine jr_lcmp C dLw_main_630 ?_
    refine jr_if_eq (tgt := 636) C dLw_main_631 (by decide) (fun _ => ?_) (fun q => absurd ((lg_cmp_eq _ _).mpr (h.1 z)) q)
    refine jr_goto (tgt := 1696) C dLw_main_636 (by decide) ?_
    refine jr_lv (lv' := [(0, .ref b), (1, .ref (ad 0)), (2, .ref (am 0)), (3, .ref ao), (4, .int x4)]) [2, 3, 4, 5, 6] rfl ?_
    exact kk u2.1 u2.2 u6 h.2
def wc_7 (K F : Nat) (st : jS) (f : Nat → Int64) (sm : jS) (a1 : Int32) (a2 : Int32) (a3 : Int32) (a4 : Int32) (cont : jS → (Nat → Int64) → jS → Prop) : Prop :=
  wp_Lw_bound K F st f a1 (fun r1 u2 => wp_Mo_bound sm a1 (fun r3 u4 => wp_Mo_thrown u4 (fun r5 u6 => r5 = r1 ∧ (r1 = 0 → (u2.2 (Int32.toNatClampNeg 0)) = r3.toInt64) ∧ cont u2.1 u2.2 u6)))
set_option maxRecDepth 100000 in
set_option maxHeartbeats 4000000 in
theorem lc_7 {p : Program} {l : Launch} {e : Env} {s : State} {m : MethodId} {below : List Frame} {meth : Method} {c : Code} {D : va_G} {cI cII cL cJ : ClassId} {ad am sa : Nat → Nat} {ao K F b L cells slots : Nat} {xs : Nat → Int32} {x4 : Int32} {A : Nat → Prop} {Q : State → Prop} {st sm : jS} {f : Nat → Int64} {cont : jS → (Nat → Int64) → jS → Prop} (hl0 : l.stackTraces = false) (C : jr_C p s m #[Value.ref b] c code 8 "KindTablesLaw" lTs D kC (kT cI cII cL cJ) A) (hZ : jr_Z A s s.heap) (hs9 : ∀ q ∈ kS sa, vk_R q.1 q.2.1 q.2.2.1 q.2.2.2 s) (hnc : jNc s) (hX : va_X b L xs s s.heap) (hbl : b < s.heap.size) (hbA : ¬ A b) (h1 : vp_in (x4 + 1) L) (h2 : vp_in (x4 + 2) L) (h3 : vp_in (x4 + 3) L) (h4 : vp_in (x4 + 4) L) (hce : cells ≤ 600000) (hsl : slots ≤ 7000000) (h : wc_7 K F st f sm (xs (Int32.toNatClampNeg (x4 + 1))) (xs (Int32.toNatClampNeg (x4 + 2))) (xs (Int32.toNatClampNeg (x4 + 3))) (xs (Int32.toNatClampNeg (x4 + 4))) cont) (kk : ∀ (st : jS) (f : Nat → Int64) (sm : jS), cont st f sm → jr_J p l e room_1 s m #[Value.ref b] below meth c A D kC 8 (cells + 1) (slots + 6) Q (lV cI cII cL cJ ad am ao K F st f sm) 1696 [(0, .ref b), (1, .ref (ad 0)), (2, .ref (am 0)), (3, .ref ao), (4, .int x4)] []) : jr_J p l e room_1 s m #[Value.ref b] below meth c A D kC 8 cells slots Q (lV cI cII cL cJ ad am ao K F st f sm) 639 [(0, .ref b), (1, .ref (ad 0)), (2, .ref (am 0)), (3, .ref ao), (4, .int x4)] [] := by
  unfold wc_7 at h
  refine jr_aload_n (q := 1) C dLw_main_639 rfl rfl ?_
  refine jr_aload_n (q := 0) C dLw_main_640 rfl rfl ?_
  refine jr_iload (q := 4) C dLw_main_641 rfl ?_
  refine jr_iconst (v := 1) C dLw_main_643 (by decide) ?_
  refine jr_iadd C dLw_main_644 ?_
  refine jr_sld C hX hbl hbA h1 dLw_main_645 ?_
  refine jr_aload_n (q := 3) C dLw_main_646 rfl rfl ?_
  refine jr_callNi (wf := oW cI cII cL cJ ad ao K F (mW cI am [] sm)) (As := [.ref (ad 0), .int (xs (Int32.toNatClampNeg (x4 + 1))), .ref ao]) (rest := []) C hZ hs9 hnc (c_Lw_bound hl0 h) (vx_cwSW 3 C.2.2.2.2.1 (tg_SW tm2_133 tm2_134 tm1_0 tm2_135) rfl rfl rfl ⟨by decide, by decide, by decide⟩ ⟨Nat.le_of_ble_eq_true rfl, Nat.le_of_ble_eq_true rfl⟩) dLw_main_647 rfl rfl (Nat.le_of_ble_eq_true rfl) ⟨by show _ ≤ 644430; omega, by show _ ≤ 7162781; omega⟩ (fun r1 u2 h => ?_)
  refine jr_istore (lv' := [(5, .int r1), (0, .ref b), (1, .ref (ad 0)), (2, .ref (am 0)), (3, .ref ao), (4, .int x4)]) C dLw_main_650 (by decide) rfl ?_
  refine jr_aload_n (q := 3) C dLw_main_652 rfl rfl ?_
  refine jr_aload_n (q := 1) C dLw_main_653 rfl rfl ?_
  refine jr_iload (q := 5) C dLw_main_654 rfl ?_
  refine jr_iconst (v := 1) C dLw_main_656 (by decide) ?_
  refine jr_iadd C dLw_main_657 ?_
  refine jr_sld C hX hbl hbA h1 dLw_main_658 ?_
  refine jr_perm (ws' := lM cI cII cL cJ ad am ao K F u2.1 u2.2 sm) lV_P lV_D ?_
  refine jr_callVi (wf := mW cI am (kW cI cII cL ad K F [oC cJ ao u2.2] u2.1)) (As := [.int (xs (Int32.toNatClampNeg (x4 + 1)))]) (rest := []) C (c_Mo_bound h) (cwV 1 C.2.2.2.2.1 (tg_V tm4_0 tm4_1 tm4_2 tm1_7 tm4_3) rfl rfl rfl ⟨rfl, by decide, by decide, by decide⟩ ⟨Nat.le_of_ble_eq_true rfl, Nat.le_of_ble_eq_true rfl⟩) dLw_main_659 (rfl : kC[5]? = _) mA_0 rfl rfl (Nat.le_of_ble_eq_true rfl) ⟨by show _ ≤ 644430; omega, by show _ ≤ 7162781; omega⟩ (fun r3 u4 h => ?_)
  refine jr_perm (ws := lM cI cII cL cJ ad am ao K F u2.1 u2.2 u4) (ws' := lV cI cII cL cJ ad am ao K F u2.1 u2.2 u4) lM_P lM_D ?_
  refine jr_istore (lv' := [(6, .int r3), (5, .int r1), (0, .ref b), (1, .ref (ad 0)), (2, .ref (am 0)), (3, .ref ao), (4, .int x4)]) C dLw_main_662 (by decide) rfl ?_
  refine jr_aload_n (q := 4) C dLw_main_664 rfl rfl ?_
  refine jr_perm (ws' := lM cI cII cL cJ ad am ao K F u2.1 u2.2 u4) lV_P lV_D ?_
  refine jr_callVi (wf := mW cI am (kW cI cII cL ad K F [oC cJ ao u2.2] u2.1)) (As := []) (rest := []) C (c_Mo_thrown h) (cwV 0 C.2.2.2.2.1 (tg_V tm3_181 tm3_182 tm3_183 tm1_7 tm3_184) rfl rfl rfl ⟨rfl, by decide, by decide, by decide⟩ ⟨Nat.le_of_ble_eq_true rfl, Nat.le_of_ble_eq_true rfl⟩) dLw_main_665 (rfl : kC[5]? = _) mA_0 rfl rfl (Nat.le_of_ble_eq_true rfl) ⟨by show _ ≤ 644430; omega, by show _ ≤ 7162781; omega⟩ (fun r5 u6 h => ?_)
  refine jr_perm (ws := lM cI cII cL cJ ad am ao K F u2.1 u2.2 u6) (ws' := lV cI cII cL cJ ad am ao K F u2.1 u2.2 u6) lM_P lM_D ?_
  refine jr_iload (q := 1) C dLw_main_668 rfl ?_
  obtain ⟨e7, h⟩ := h
  refine jr_icmp_eq (tgt := 675) C dLw_main_670 (by decide) (fun _ => ?_) (fun q => absurd e7 q)
  refine jr_iload (q := 1) C dLw_main_675 rfl ?_
  refine jr_if_ne (tgt := 692) C dLw_main_677 (by decide) (fun z => ?_) (fun z => ?_)
  · refine jr_goto (tgt := 1696) C dLw_main_692 (by decide) ?_
    refine jr_lv (lv' := [(0, .ref b), (1, .ref (ad 0)), (2, .ref (am 0)), (3, .ref ao), (4, .int x4)]) [2, 3, 4, 5, 6] rfl ?_
    exact kk u2.1 u2.2 u6 h.2
  · refine jr_aload_n (q := 5) C dLw_main_680 rfl rfl ?_
    refine jr_iconst (v := 0) C dLw_main_681 (by decide) ?_
    refine jr_lald (t0 := 3) C dLw_main_682 oA rfl vi_01 ?_
    refine jr_iload (q := 0) C dLw_main_683 rfl ?_
    refine jr_i2l C dLw_main_685 ?_
    refine jr_lcmp C dLw_main_686 ?_
    refine jr_if_eq (tgt := 692) C dLw_main_687 (by decide) (fun _ => ?_) (fun q => absurd ((lg_cmp_eq _ _).mpr (h.1 z)) q)
    refine jr_goto (tgt := 1696) C dLw_main_692 (by decide) ?_
    refine jr_lv (lv' := [(0, .ref b), (1, .ref (ad 0)), (2, .ref (am 0)), (3, .ref ao), (4, .int x4)]) [2, 3, 4, 5, 6] rfl ?_
    exact kk u2.1 u2.2 u6 h.2
def wc_8 (K F : Nat) (st : jS) (f : Nat → Int64) (sm : jS) (a1 : Int32) (a2 : Int32) (a3 : Int32) (a4 : Int32) (cont : jS → (Nat → Int64) → jS → Prop) : Prop :=
  wp_Lw_prefer K F st f a1 (fun r1 u2 => wp_Mo_prefer sm a1 (fun r3 u4 => wp_Mo_thrown u4 (fun r5 u6 => r5 = r1 ∧ (r1 = 0 → (u2.2 (Int32.toNatClampNeg 0)) = r3.toInt64) ∧ cont u2.1 u2.2 u6)))
set_option maxRecDepth 100000 in
set_option maxHeartbeats 4000000 in
theorem lc_8 {p : Program} {l : Launch} {e : Env} {s : State} {m : MethodId} {below : List Frame} {meth : Method} {c : Code} {D : va_G} {cI cII cL cJ : ClassId} {ad am sa : Nat → Nat} {ao K F b L cells slots : Nat} {xs : Nat → Int32} {x4 : Int32} {A : Nat → Prop} {Q : State → Prop} {st sm : jS} {f : Nat → Int64} {cont : jS → (Nat → Int64) → jS → Prop} (hl0 : l.stackTraces = false) (C : jr_C p s m #[Value.ref b] c code 8 "KindTablesLaw" lTs D kC (kT cI cII cL cJ) A) (hZ : jr_Z A s s.heap) (hs9 : ∀ q ∈ kS sa, vk_R q.1 q.2.1 q.2.2.1 q.2.2.2 s) (hnc : jNc s) (hX : va_X b L xs s s.heap) (hbl : b < s.heap.size) (hbA : ¬ A b) (h1 : vp_in (x4 + 1) L) (h2 : vp_in (x4 + 2) L) (h3 : vp_in (x4 + 3) L) (h4 : vp_in (x4 + 4) L) (hce : cells ≤ 600000) (hsl : slots ≤ 7000000) (h : wc_8 K F st f sm (xs (Int32.toNatClampNeg (x4 + 1))) (xs (Int32.toNatClampNeg (x4 + 2))) (xs (Int32.toNatClampNeg (x4 + 3))) (xs (Int32.toNatClampNeg (x4 + 4))) cont) (kk : ∀ (st : jS) (f : Nat → Int64) (sm : jS), cont st f sm → jr_J p l e room_1 s m #[Value.ref b] below meth c A D kC 8 (cells + 1) (slots + 6) Q (lV cI cII cL cJ ad am ao K F st f sm) 1696 [(0, .ref b), (1, .ref (ad 0)), (2, .ref (am 0)), (3, .ref ao), (4, .int x4)] []) : jr_J p l e room_1 s m #[Value.ref b] below meth c A D kC 8 cells slots Q (lV cI cII cL cJ ad am ao K F st f sm) 695 [(0, .ref b), (1, .ref (ad 0)), (2, .ref (am 0)), (3, .ref ao), (4, .int x4)] [] := by
  unfold wc_8 at h
  refine jr_aload_n (q := 1) C dLw_main_695 rfl rfl ?_
  refine jr_aload_n (q := 0) C dLw_main_696 rfl rfl ?_
  refine jr_iload (q := 4) C dLw_main_697 rfl ?_
  refine jr_iconst (v := 1) C dLw_main_699 (by decide) ?_
  refine jr_iadd C dLw_main_700 ?_
  refine jr_sld C hX hbl hbA h1 dLw_main_701 ?_
  refine jr_aload_n (q := 3) C dLw_main_702 rfl rfl ?_
  refine jr_callNi (wf := oW cI cII cL cJ ad ao K F (mW cI am [] sm)) (As := [.ref (ad 0), .int (xs (Int32.toNatClampNeg (x4 + 1))), .ref ao]) (rest := []) C hZ hs9 hnc (c_Lw_prefer hl0 h) (vx_cwSW 3 C.2.2.2.2.1 (tg_SW tm2_140 tm2_141 tm1_0 tm2_142) rfl rfl rfl ⟨by decide, by decide, by decide⟩ ⟨Nat.le_of_ble_eq_true rfl, Nat.le_of_ble_eq_true rfl⟩) dLw_main_703 rfl rfl (Nat.le_of_ble_eq_true rfl) ⟨by show _ ≤ 644430; omega, by show _ ≤ 7162781; omega⟩ (fun r1 u2 h => ?_)
  refine jr_istore (lv' := [(5, .int r1), (0, .ref b), (1, .ref (ad 0)), (2, .ref (am 0)), (3, .ref ao), (4, .int x4)]) C dLw_main_706 (by decide) rfl ?_
  refine jr_aload_n (q := 3) C dLw_main_708 rfl rfl ?_
  refine jr_aload_n (q := 1) C dLw_main_709 rfl rfl ?_
  refine jr_iload (q := 5) C dLw_main_710 rfl ?_
  refine jr_iconst (v := 1) C dLw_main_712 (by decide) ?_
  refine jr_iadd C dLw_main_713 ?_
  refine jr_sld C hX hbl hbA h1 dLw_main_714 ?_
  refine jr_perm (ws' := lM cI cII cL cJ ad am ao K F u2.1 u2.2 sm) lV_P lV_D ?_
  refine jr_callVi (wf := mW cI am (kW cI cII cL ad K F [oC cJ ao u2.2] u2.1)) (As := [.int (xs (Int32.toNatClampNeg (x4 + 1)))]) (rest := []) C (c_Mo_prefer h) (cwV 1 C.2.2.2.2.1 (tg_V tm4_4 tm4_5 tm4_6 tm1_7 tm4_7) rfl rfl rfl ⟨rfl, by decide, by decide, by decide⟩ ⟨Nat.le_of_ble_eq_true rfl, Nat.le_of_ble_eq_true rfl⟩) dLw_main_715 (rfl : kC[5]? = _) mA_0 rfl rfl (Nat.le_of_ble_eq_true rfl) ⟨by show _ ≤ 644430; omega, by show _ ≤ 7162781; omega⟩ (fun r3 u4 h => ?_)
  refine jr_perm (ws := lM cI cII cL cJ ad am ao K F u2.1 u2.2 u4) (ws' := lV cI cII cL cJ ad am ao K F u2.1 u2.2 u4) lM_P lM_D ?_
  refine jr_istore (lv' := [(6, .int r3), (5, .int r1), (0, .ref b), (1, .ref (ad 0)), (2, .ref (am 0)), (3, .ref ao), (4, .int x4)]) C dLw_main_718 (by decide) rfl ?_
  refine jr_aload_n (q := 4) C dLw_main_720 rfl rfl ?_
  refine jr_perm (ws' := lM cI cII cL cJ ad am ao K F u2.1 u2.2 u4) lV_P lV_D ?_
  refine jr_callVi (wf := mW cI am (kW cI cII cL ad K F [oC cJ ao u2.2] u2.1)) (As := []) (rest := []) C (c_Mo_thrown h) (cwV 0 C.2.2.2.2.1 (tg_V tm3_181 tm3_182 tm3_183 tm1_7 tm3_184) rfl rfl rfl ⟨rfl, by decide, by decide, by decide⟩ ⟨Nat.le_of_ble_eq_true rfl, Nat.le_of_ble_eq_true rfl⟩) dLw_main_721 (rfl : kC[5]? = _) mA_0 rfl rfl (Nat.le_of_ble_eq_true rfl) ⟨by show _ ≤ 644430; omega, by show _ ≤ 7162781; omega⟩ (fun r5 u6 h => ?_)
  refine jr_perm (ws := lM cI cII cL cJ ad am ao K F u2.1 u2.2 u6) (ws' := lV cI cII cL cJ ad am ao K F u2.1 u2.2 u6) lM_P lM_D ?_
  refine jr_iload (q := 1) C dLw_main_724 rfl ?_
  obtain ⟨e7, h⟩ := h
  refine jr_icmp_eq (tgt := 731) C dLw_main_726 (by decide) (fun _ => ?_) (fun q => absurd e7 q)
  refine jr_iload (q := 1) C dLw_main_731 rfl ?_
  refine jr_if_ne (tgt := 748) C dLw_main_733 (by decide) (fun z => ?_) (fun z => ?_)
  · refine jr_goto (tgt := 1696) C dLw_main_748 (by decide) ?_
    refine jr_lv (lv' := [(0, .ref b), (1, .ref (ad 0)), (2, .ref (am 0)), (3, .ref ao), (4, .int x4)]) [2, 3, 4, 5, 6] rfl ?_
    exact kk u2.1 u2.2 u6 h.2
  · refine jr_aload_n (q := 5) C dLw_main_736 rfl rfl ?_
    refine jr_iconst (v := 0) C dLw_main_737 (by decide) ?_
    refine jr_lald (t0 := 3) C dLw_main_738 oA rfl vi_01 ?_
    refine jr_iload (q := 0) C dLw_main_739 rfl ?_
    refine jr_i2l C dLw_main_741 ?_
    refine jr_lcmp C dLw_main_742 ?_
    refine jr_if_eq (tgt := 748) C dLw_main_743 (by decide) (fun _ => ?_) (fun q => absurd ((lg_cmp_eq _ _).mpr (h.1 z)) q)
    refine jr_goto (tgt := 1696) C dLw_main_748 (by decide) ?_
    refine jr_lv (lv' := [(0, .ref b), (1, .ref (ad 0)), (2, .ref (am 0)), (3, .ref ao), (4, .int x4)]) [2, 3, 4, 5, 6] rfl ?_
    exact kk u2.1 u2.2 u6 h.2
def wc_9 (K F : Nat) (st : jS) (f : Nat → Int64) (sm : jS) (a1 : Int32) (a2 : Int32) (a3 : Int32) (a4 : Int32) (cont : jS → (Nat → Int64) → jS → Prop) : Prop :=
  wp_Lw_wrong K F st f a1 a2 a3 (fun r1 u2 => wp_Mo_wrong sm a1 a2 a3 (fun r3 u4 => wp_Mo_thrown u4 (fun r5 u6 => r5 = r1 ∧ (r1 = 0 → (u2.2 (Int32.toNatClampNeg 0)) = r3.toInt64) ∧ cont u2.1 u2.2 u6)))
set_option maxRecDepth 100000 in
set_option maxHeartbeats 4000000 in
theorem lc_9 {p : Program} {l : Launch} {e : Env} {s : State} {m : MethodId} {below : List Frame} {meth : Method} {c : Code} {D : va_G} {cI cII cL cJ : ClassId} {ad am sa : Nat → Nat} {ao K F b L cells slots : Nat} {xs : Nat → Int32} {x4 : Int32} {A : Nat → Prop} {Q : State → Prop} {st sm : jS} {f : Nat → Int64} {cont : jS → (Nat → Int64) → jS → Prop} (hl0 : l.stackTraces = false) (C : jr_C p s m #[Value.ref b] c code 8 "KindTablesLaw" lTs D kC (kT cI cII cL cJ) A) (hZ : jr_Z A s s.heap) (hs9 : ∀ q ∈ kS sa, vk_R q.1 q.2.1 q.2.2.1 q.2.2.2 s) (hnc : jNc s) (hX : va_X b L xs s s.heap) (hbl : b < s.heap.size) (hbA : ¬ A b) (h1 : vp_in (x4 + 1) L) (h2 : vp_in (x4 + 2) L) (h3 : vp_in (x4 + 3) L) (h4 : vp_in (x4 + 4) L) (hce : cells ≤ 600000) (hsl : slots ≤ 7000000) (h : wc_9 K F st f sm (xs (Int32.toNatClampNeg (x4 + 1))) (xs (Int32.toNatClampNeg (x4 + 2))) (xs (Int32.toNatClampNeg (x4 + 3))) (xs (Int32.toNatClampNeg (x4 + 4))) cont) (kk : ∀ (st : jS) (f : Nat → Int64) (sm : jS), cont st f sm → jr_J p l e room_1 s m #[Value.ref b] below meth c A D kC 8 (cells + 3) (slots + 18) Q (lV cI cII cL cJ ad am ao K F st f sm) 1696 [(0, .ref b), (1, .ref (ad 0)), (2, .ref (am 0)), (3, .ref ao), (4, .int x4)] []) : jr_J p l e room_1 s m #[Value.ref b] below meth c A D kC 8 cells slots Q (lV cI cII cL cJ ad am ao K F st f sm) 751 [(0, .ref b), (1, .ref (ad 0)), (2, .ref (am 0)), (3, .ref ao), (4, .int x4)] [] := by
  unfold wc_9 at h
  refine jr_aload_n (q := 1) C dLw_main_751 rfl rfl ?_
  refine jr_aload_n (q := 0) C dLw_main_752 rfl rfl ?_
  refine jr_iload (q := 4) C dLw_main_753 rfl ?_
  refine jr_iconst (v := 1) C dLw_main_755 (by decide) ?_
  refine jr_iadd C dLw_main_756 ?_
  refine jr_sld C hX hbl hbA h1 dLw_main_757 ?_
  refine jr_aload_n (q := 0) C dLw_main_758 rfl rfl ?_
  refine jr_iload (q := 4) C dLw_main_759 rfl ?_
  refine jr_iconst (v := 2) C dLw_main_761 (by decide) ?_
  refine jr_iadd C dLw_main_762 ?_
  refine jr_sld C hX hbl hbA h2 dLw_main_763 ?_
  refine jr_aload_n (q := 0) C dLw_main_764 rfl rfl ?_
  refine jr_iload (q := 4) C dLw_main_765 rfl ?_
  refine jr_iconst (v := 3) C dLw_main_767 (by decide) ?_
  refine jr_iadd C dLw_main_768 ?_
  refine jr_sld C hX hbl hbA h3 dLw_main_769 ?_
  refine jr_aload_n (q := 3) C dLw_main_770 rfl rfl ?_
  refine jr_callNi (wf := oW cI cII cL cJ ad ao K F (mW cI am [] sm)) (As := [.ref (ad 0), .int (xs (Int32.toNatClampNeg (x4 + 1))), .int (xs (Int32.toNatClampNeg (x4 + 2))), .int (xs (Int32.toNatClampNeg (x4 + 3))), .ref ao]) (rest := []) C hZ hs9 hnc (c_Lw_wrong hl0 h) (vx_cwSW 5 C.2.2.2.2.1 (tg_SW tm2_155 tm2_156 tm1_0 tm2_157) rfl rfl rfl ⟨by decide, by decide, by decide⟩ ⟨Nat.le_of_ble_eq_true rfl, Nat.le_of_ble_eq_true rfl⟩) dLw_main_771 rfl rfl (Nat.le_of_ble_eq_true rfl) ⟨by show _ ≤ 644430; omega, by show _ ≤ 7162781; omega⟩ (fun r1 u2 h => ?_)
  refine jr_istore (lv' := [(5, .int r1), (0, .ref b), (1, .ref (ad 0)), (2, .ref (am 0)), (3, .ref ao), (4, .int x4)]) C dLw_main_774 (by decide) rfl ?_
  refine jr_aload_n (q := 3) C dLw_main_776 rfl rfl ?_
  refine jr_aload_n (q := 1) C dLw_main_777 rfl rfl ?_
  refine jr_iload (q := 5) C dLw_main_778 rfl ?_
  refine jr_iconst (v := 1) C dLw_main_780 (by decide) ?_
  refine jr_iadd C dLw_main_781 ?_
  refine jr_sld C hX hbl hbA h1 dLw_main_782 ?_
  refine jr_aload_n (q := 1) C dLw_main_783 rfl rfl ?_
  refine jr_iload (q := 5) C dLw_main_784 rfl ?_
  refine jr_iconst (v := 2) C dLw_main_786 (by decide) ?_
  refine jr_iadd C dLw_main_787 ?_
  refine jr_sld C hX hbl hbA h2 dLw_main_788 ?_
  refine jr_aload_n (q := 1) C dLw_main_789 rfl rfl ?_
  refine jr_iload (q := 5) C dLw_main_790 rfl ?_
  refine jr_iconst (v := 3) C dLw_main_792 (by decide) ?_
  refine jr_iadd C dLw_main_793 ?_
  refine jr_sld C hX hbl hbA h3 dLw_main_794 ?_
  refine jr_perm (ws' := lM cI cII cL cJ ad am ao K F u2.1 u2.2 sm) lV_P lV_D ?_
  refine jr_callVi (wf := mW cI am (kW cI cII cL ad K F [oC cJ ao u2.2] u2.1)) (As := [.int (xs (Int32.toNatClampNeg (x4 + 1))), .int (xs (Int32.toNatClampNeg (x4 + 2))), .int (xs (Int32.toNatClampNeg (x4 + 3)))]) (rest := []) C (c_Mo_wrong h) (cwV 3 C.2.2.2.2.1 (tg_V tm4_8 tm4_9 tm4_10 tm1_7 tm4_11) rfl rfl rfl ⟨rfl, by decide, by decide, by decide⟩ ⟨Nat.le_of_ble_eq_true rfl, Nat.le_of_ble_eq_true rfl⟩) dLw_main_795 (rfl : kC[5]? = _) mA_0 rfl rfl (Nat.le_of_ble_eq_true rfl) ⟨by show _ ≤ 644430; omega, by show _ ≤ 7162781; omega⟩ (fun r3 u4 h => ?_)
  refine jr_perm (ws := lM cI cII cL cJ ad am ao K F u2.1 u2.2 u4) (ws' := lV cI cII cL cJ ad am ao K F u2.1 u2.2 u4) lM_P lM_D ?_
  refine jr_istore (lv' := [(6, .int r3), (5, .int r1), (0, .ref b), (1, .ref (ad 0)), (2, .ref (am 0)), (3, .ref ao), (4, .int x4)]) C dLw_main_798 (by decide) rfl ?_
  refine jr_aload_n (q := 4) C dLw_main_800 rfl rfl ?_
  refine jr_perm (ws' := lM cI cII cL cJ ad am ao K F u2.1 u2.2 u4) lV_P lV_D ?_
  refine jr_callVi (wf := mW cI am (kW cI cII cL ad K F [oC cJ ao u2.2] u2.1)) (As := []) (rest := []) C (c_Mo_thrown h) (cwV 0 C.2.2.2.2.1 (tg_V tm3_181 tm3_182 tm3_183 tm1_7 tm3_184) rfl rfl rfl ⟨rfl, by decide, by decide, by decide⟩ ⟨Nat.le_of_ble_eq_true rfl, Nat.le_of_ble_eq_true rfl⟩) dLw_main_801 (rfl : kC[5]? = _) mA_0 rfl rfl (Nat.le_of_ble_eq_true rfl) ⟨by show _ ≤ 644430; omega, by show _ ≤ 7162781; omega⟩ (fun r5 u6 h => ?_)
  refine jr_perm (ws := lM cI cII cL cJ ad am ao K F u2.1 u2.2 u6) (ws' := lV cI cII cL cJ ad am ao K F u2.1 u2.2 u6) lM_P lM_D ?_
  refine jr_iload (q := 1) C dLw_main_804 rfl ?_
  obtain ⟨e7, h⟩ := h
  refine jr_icmp_eq (tgt := 811) C dLw_main_806 (by decide) (fun _ => ?_) (fun q => absurd e7 q)
  refine jr_iload (q := 1) C dLw_main_811 rfl ?_
  refine jr_if_ne (tgt := 828) C dLw_main_813 (by decide) (fun z => ?_) (fun z => ?_)
  · refine jr_goto (tgt := 1696) C dLw_main_828 (by decide) ?_
    refine jr_lv (lv' := [(0, .ref b), (1, .ref (ad 0)), (2, .ref (am 0)), (3, .ref ao), (4, .int x4)]) [2, 3, 4, 5, 6] rfl ?_
    exact kk u2.1 u2.2 u6 h.2
  · refine jr_aload_n (q := 5) C dLw_main_816 rfl rfl ?_
    refine jr_iconst (v := 0) C dLw_main_817 (by decide) ?_
    refine jr_lald (t0 := 3) C dLw_main_818 oA rfl vi_01 ?_
    refine jr_iload (q := 0) C dLw_main_819 rfl ?_
    refine jr_i2l C dLw_main_821 ?_
    refine jr_lcmp C dLw_main_822 ?_
    refine jr_if_eq (tgt := 828) C dLw_main_823 (by decide) (fun _ => ?_) (fun q => absurd ((lg_cmp_eq _ _).mpr (h.1 z)) q)
    refine jr_goto (tgt := 1696) C dLw_main_828 (by decide) ?_
    refine jr_lv (lv' := [(0, .ref b), (1, .ref (ad 0)), (2, .ref (am 0)), (3, .ref ao), (4, .int x4)]) [2, 3, 4, 5, 6] rfl ?_
    exact kk u2.1 u2.2 u6 h.2
def wc_10 (K F : Nat) (st : jS) (f : Nat → Int64) (sm : jS) (a1 : Int32) (a2 : Int32) (a3 : Int32) (a4 : Int32) (cont : jS → (Nat → Int64) → jS → Prop) : Prop :=
  wp_Lw_right K F st f a1 (fun r1 u2 => wp_Mo_right sm a1 (fun r3 u4 => wp_Mo_thrown u4 (fun r5 u6 => r5 = r1 ∧ (r1 = 0 → (u2.2 (Int32.toNatClampNeg 0)) = r3.toInt64) ∧ cont u2.1 u2.2 u6)))
set_option maxRecDepth 100000 in
set_option maxHeartbeats 4000000 in
theorem lc_10 {p : Program} {l : Launch} {e : Env} {s : State} {m : MethodId} {below : List Frame} {meth : Method} {c : Code} {D : va_G} {cI cII cL cJ : ClassId} {ad am sa : Nat → Nat} {ao K F b L cells slots : Nat} {xs : Nat → Int32} {x4 : Int32} {A : Nat → Prop} {Q : State → Prop} {st sm : jS} {f : Nat → Int64} {cont : jS → (Nat → Int64) → jS → Prop} (hl0 : l.stackTraces = false) (C : jr_C p s m #[Value.ref b] c code 8 "KindTablesLaw" lTs D kC (kT cI cII cL cJ) A) (hZ : jr_Z A s s.heap) (hs9 : ∀ q ∈ kS sa, vk_R q.1 q.2.1 q.2.2.1 q.2.2.2 s) (hnc : jNc s) (hX : va_X b L xs s s.heap) (hbl : b < s.heap.size) (hbA : ¬ A b) (h1 : vp_in (x4 + 1) L) (h2 : vp_in (x4 + 2) L) (h3 : vp_in (x4 + 3) L) (h4 : vp_in (x4 + 4) L) (hce : cells ≤ 600000) (hsl : slots ≤ 7000000) (h : wc_10 K F st f sm (xs (Int32.toNatClampNeg (x4 + 1))) (xs (Int32.toNatClampNeg (x4 + 2))) (xs (Int32.toNatClampNeg (x4 + 3))) (xs (Int32.toNatClampNeg (x4 + 4))) cont) (kk : ∀ (st : jS) (f : Nat → Int64) (sm : jS), cont st f sm → jr_J p l e room_1 s m #[Value.ref b] below meth c A D kC 8 (cells + 1) (slots + 6) Q (lV cI cII cL cJ ad am ao K F st f sm) 1696 [(0, .ref b), (1, .ref (ad 0)), (2, .ref (am 0)), (3, .ref ao), (4, .int x4)] []) : jr_J p l e room_1 s m #[Value.ref b] below meth c A D kC 8 cells slots Q (lV cI cII cL cJ ad am ao K F st f sm) 831 [(0, .ref b), (1, .ref (ad 0)), (2, .ref (am 0)), (3, .ref ao), (4, .int x4)] [] := by
  unfold wc_10 at h
  refine jr_aload_n (q := 1) C dLw_main_831 rfl rfl ?_
  refine jr_aload_n (q := 0) C dLw_main_832 rfl rfl ?_
  refine jr_iload (q := 4) C dLw_main_833 rfl ?_
  refine jr_iconst (v := 1) C dLw_main_835 (by decide) ?_
  refine jr_iadd C dLw_main_836 ?_
  refine jr_sld C hX hbl hbA h1 dLw_main_837 ?_
  refine jr_aload_n (q := 3) C dLw_main_838 rfl rfl ?_
  refine jr_callNi (wf := oW cI cII cL cJ ad ao K F (mW cI am [] sm)) (As := [.ref (ad 0), .int (xs (Int32.toNatClampNeg (x4 + 1))), .ref ao]) (rest := []) C hZ hs9 hnc (c_Lw_right hl0 h) (vx_cwSW 3 C.2.2.2.2.1 (tg_SW tm2_176 tm2_177 tm1_0 tm2_178) rfl rfl rfl ⟨by decide, by decide, by decide⟩ ⟨Nat.le_of_ble_eq_true rfl, Nat.le_of_ble_eq_true rfl⟩) dLw_main_839 rfl rfl (Nat.le_of_ble_eq_true rfl) ⟨by show _ ≤ 644430; omega, by show _ ≤ 7162781; omega⟩ (fun r1 u2 h => ?_)
  refine jr_istore (lv' := [(5, .int r1), (0, .ref b), (1, .ref (ad 0)), (2, .ref (am 0)), (3, .ref ao), (4, .int x4)]) C dLw_main_842 (by decide) rfl ?_
  refine jr_aload_n (q := 3) C dLw_main_844 rfl rfl ?_
  refine jr_aload_n (q := 1) C dLw_main_845 rfl rfl ?_
  refine jr_iload (q := 5) C dLw_main_846 rfl ?_
  refine jr_iconst (v := 1) C dLw_main_848 (by decide) ?_
  refine jr_iadd C dLw_main_849 ?_
  refine jr_sld C hX hbl hbA h1 dLw_main_850 ?_
  refine jr_perm (ws' := lM cI cII cL cJ ad am ao K F u2.1 u2.2 sm) lV_P lV_D ?_
  refine jr_callVi (wf := mW cI am (kW cI cII cL ad K F [oC cJ ao u2.2] u2.1)) (As := [.int (xs (Int32.toNatClampNeg (x4 + 1)))]) (rest := []) C (c_Mo_right h) (cwV 1 C.2.2.2.2.1 (tg_V tm4_18 tm4_19 tm4_20 tm1_7 tm4_21) rfl rfl rfl ⟨rfl, by decide, by decide, by decide⟩ ⟨Nat.le_of_ble_eq_true rfl, Nat.le_of_ble_eq_true rfl⟩) dLw_main_851 (rfl : kC[5]? = _) mA_0 rfl rfl (Nat.le_of_ble_eq_true rfl) ⟨by show _ ≤ 644430; omega, by show _ ≤ 7162781; omega⟩ (fun r3 u4 h => ?_)
  refine jr_perm (ws := lM cI cII cL cJ ad am ao K F u2.1 u2.2 u4) (ws' := lV cI cII cL cJ ad am ao K F u2.1 u2.2 u4) lM_P lM_D ?_
  refine jr_istore (lv' := [(6, .int r3), (5, .int r1), (0, .ref b), (1, .ref (ad 0)), (2, .ref (am 0)), (3, .ref ao), (4, .int x4)]) C dLw_main_854 (by decide) rfl ?_
  refine jr_aload_n (q := 4) C dLw_main_856 rfl rfl ?_
  refine jr_perm (ws' := lM cI cII cL cJ ad am ao K F u2.1 u2.2 u4) lV_P lV_D ?_
  refine jr_callVi (wf := mW cI am (kW cI cII cL ad K F [oC cJ ao u2.2] u2.1)) (As := []) (rest := []) C (c_Mo_thrown h) (cwV 0 C.2.2.2.2.1 (tg_V tm3_181 tm3_182 tm3_183 tm1_7 tm3_184) rfl rfl rfl ⟨rfl, by decide, by decide, by decide⟩ ⟨Nat.le_of_ble_eq_true rfl, Nat.le_of_ble_eq_true rfl⟩) dLw_main_857 (rfl : kC[5]? = _) mA_0 rfl rfl (Nat.le_of_ble_eq_true rfl) ⟨by show _ ≤ 644430; omega, by show _ ≤ 7162781; omega⟩ (fun r5 u6 h => ?_)
  refine jr_perm (ws := lM cI cII cL cJ ad am ao K F u2.1 u2.2 u6) (ws' := lV cI cII cL cJ ad am ao K F u2.1 u2.2 u6) lM_P lM_D ?_
  refine jr_iload (q := 1) C dLw_main_860 rfl ?_
  obtain ⟨e7, h⟩ := h
  refine jr_icmp_eq (tgt := 867) C dLw_main_862 (by decide) (fun _ => ?_) (fun q => absurd e7 q)
  refine jr_iload (q := 1) C dLw_main_867 rfl ?_
  refine jr_if_ne (tgt := 884) C dLw_main_869 (by decide) (fun z => ?_) (fun z => ?_)
  · refine jr_goto (tgt := 1696) C dLw_main_884 (by decide) ?_
    refine jr_lv (lv' := [(0, .ref b), (1, .ref (ad 0)), (2, .ref (am 0)), (3, .ref ao), (4, .int x4)]) [2, 3, 4, 5, 6] rfl ?_
    exact kk u2.1 u2.2 u6 h.2
  · refine jr_aload_n (q := 5) C dLw_main_872 rfl rfl ?_
    refine jr_iconst (v := 0) C dLw_main_873 (by decide) ?_
    refine jr_lald (t0 := 3) C dLw_main_874 oA rfl vi_01 ?_
    refine jr_iload (q := 0) C dLw_main_875 rfl ?_
    refine jr_i2l C dLw_main_877 ?_
    refine jr_lcmp C dLw_main_878 ?_
    refine jr_if_eq (tgt := 884) C dLw_main_879 (by decide) (fun _ => ?_) (fun q => absurd ((lg_cmp_eq _ _).mpr (h.1 z)) q)
    refine jr_goto (tgt := 1696) C dLw_main_884 (by decide) ?_
    refine jr_lv (lv' := [(0, .ref b), (1, .ref (ad 0)), (2, .ref (am 0)), (3, .ref ao), (4, .int x4)]) [2, 3, 4, 5, 6] rfl ?_
    exact kk u2.1 u2.2 u6 h.2
def wc_11 (K F : Nat) (st : jS) (f : Nat → Int64) (sm : jS) (a1 : Int32) (a2 : Int32) (a3 : Int32) (a4 : Int32) (cont : jS → (Nat → Int64) → jS → Prop) : Prop :=
  wp_Lw_best K F st f a1 (fun r1 u2 => wp_Mo_best sm a1 (fun r3 u4 => wp_Mo_thrown u4 (fun r5 u6 => r5 = r1 ∧ (r1 = 0 → (u2.2 (Int32.toNatClampNeg 0)) = r3.toInt64) ∧ cont u2.1 u2.2 u6)))
set_option maxRecDepth 100000 in
set_option maxHeartbeats 4000000 in
theorem lc_11 {p : Program} {l : Launch} {e : Env} {s : State} {m : MethodId} {below : List Frame} {meth : Method} {c : Code} {D : va_G} {cI cII cL cJ : ClassId} {ad am sa : Nat → Nat} {ao K F b L cells slots : Nat} {xs : Nat → Int32} {x4 : Int32} {A : Nat → Prop} {Q : State → Prop} {st sm : jS} {f : Nat → Int64} {cont : jS → (Nat → Int64) → jS → Prop} (hl0 : l.stackTraces = false) (C : jr_C p s m #[Value.ref b] c code 8 "KindTablesLaw" lTs D kC (kT cI cII cL cJ) A) (hZ : jr_Z A s s.heap) (hs9 : ∀ q ∈ kS sa, vk_R q.1 q.2.1 q.2.2.1 q.2.2.2 s) (hnc : jNc s) (hX : va_X b L xs s s.heap) (hbl : b < s.heap.size) (hbA : ¬ A b) (h1 : vp_in (x4 + 1) L) (h2 : vp_in (x4 + 2) L) (h3 : vp_in (x4 + 3) L) (h4 : vp_in (x4 + 4) L) (hce : cells ≤ 600000) (hsl : slots ≤ 7000000) (h : wc_11 K F st f sm (xs (Int32.toNatClampNeg (x4 + 1))) (xs (Int32.toNatClampNeg (x4 + 2))) (xs (Int32.toNatClampNeg (x4 + 3))) (xs (Int32.toNatClampNeg (x4 + 4))) cont) (kk : ∀ (st : jS) (f : Nat → Int64) (sm : jS), cont st f sm → jr_J p l e room_1 s m #[Value.ref b] below meth c A D kC 8 (cells + 1) (slots + 6) Q (lV cI cII cL cJ ad am ao K F st f sm) 1696 [(0, .ref b), (1, .ref (ad 0)), (2, .ref (am 0)), (3, .ref ao), (4, .int x4)] []) : jr_J p l e room_1 s m #[Value.ref b] below meth c A D kC 8 cells slots Q (lV cI cII cL cJ ad am ao K F st f sm) 887 [(0, .ref b), (1, .ref (ad 0)), (2, .ref (am 0)), (3, .ref ao), (4, .int x4)] [] := by
  unfold wc_11 at h
  refine jr_aload_n (q := 1) C dLw_main_887 rfl rfl ?_
  refine jr_aload_n (q := 0) C dLw_main_888 rfl rfl ?_
  refine jr_iload (q := 4) C dLw_main_889 rfl ?_
  refine jr_iconst (v := 1) C dLw_main_891 (by decide) ?_
  refine jr_iadd C dLw_main_892 ?_
  refine jr_sld C hX hbl hbA h1 dLw_main_893 ?_
  refine jr_aload_n (q := 3) C dLw_main_894 rfl rfl ?_
  refine jr_callNi (wf := oW cI cII cL cJ ad ao K F (mW cI am [] sm)) (As := [.ref (ad 0), .int (xs (Int32.toNatClampNeg (x4 + 1))), .ref ao]) (rest := []) C hZ hs9 hnc (c_Lw_best hl0 h) (vx_cwSW 3 C.2.2.2.2.1 (tg_SW tm2_187 tm2_188 tm1_0 tm2_189) rfl rfl rfl ⟨by decide, by decide, by decide⟩ ⟨Nat.le_of_ble_eq_true rfl, Nat.le_of_ble_eq_true rfl⟩) dLw_main_895 rfl rfl (Nat.le_of_ble_eq_true rfl) ⟨by show _ ≤ 644430; omega, by show _ ≤ 7162781; omega⟩ (fun r1 u2 h => ?_)
  refine jr_istore (lv' := [(5, .int r1), (0, .ref b), (1, .ref (ad 0)), (2, .ref (am 0)), (3, .ref ao), (4, .int x4)]) C dLw_main_898 (by decide) rfl ?_
  refine jr_aload_n (q := 3) C dLw_main_900 rfl rfl ?_
  refine jr_aload_n (q := 1) C dLw_main_901 rfl rfl ?_
  refine jr_iload (q := 5) C dLw_main_902 rfl ?_
  refine jr_iconst (v := 1) C dLw_main_904 (by decide) ?_
  refine jr_iadd C dLw_main_905 ?_
  refine jr_sld C hX hbl hbA h1 dLw_main_906 ?_
  refine jr_perm (ws' := lM cI cII cL cJ ad am ao K F u2.1 u2.2 sm) lV_P lV_D ?_
  refine jr_callVi (wf := mW cI am (kW cI cII cL ad K F [oC cJ ao u2.2] u2.1)) (As := [.int (xs (Int32.toNatClampNeg (x4 + 1)))]) (rest := []) C (c_Mo_best h) (cwV 1 C.2.2.2.2.1 (tg_V tm4_26 tm4_27 tm4_28 tm1_7 tm4_29) rfl rfl rfl ⟨rfl, by decide, by decide, by decide⟩ ⟨Nat.le_of_ble_eq_true rfl, Nat.le_of_ble_eq_true rfl⟩) dLw_main_907 (rfl : kC[5]? = _) mA_0 rfl rfl (Nat.le_of_ble_eq_true rfl) ⟨by show _ ≤ 644430; omega, by show _ ≤ 7162781; omega⟩ (fun r3 u4 h => ?_)
  refine jr_perm (ws := lM cI cII cL cJ ad am ao K F u2.1 u2.2 u4) (ws' := lV cI cII cL cJ ad am ao K F u2.1 u2.2 u4) lM_P lM_D ?_
  refine jr_istore (lv' := [(6, .int r3), (5, .int r1), (0, .ref b), (1, .ref (ad 0)), (2, .ref (am 0)), (3, .ref ao), (4, .int x4)]) C dLw_main_910 (by decide) rfl ?_
  refine jr_aload_n (q := 4) C dLw_main_912 rfl rfl ?_
  refine jr_perm (ws' := lM cI cII cL cJ ad am ao K F u2.1 u2.2 u4) lV_P lV_D ?_
  refine jr_callVi (wf := mW cI am (kW cI cII cL ad K F [oC cJ ao u2.2] u2.1)) (As := []) (rest := []) C (c_Mo_thrown h) (cwV 0 C.2.2.2.2.1 (tg_V tm3_181 tm3_182 tm3_183 tm1_7 tm3_184) rfl rfl rfl ⟨rfl, by decide, by decide, by decide⟩ ⟨Nat.le_of_ble_eq_true rfl, Nat.le_of_ble_eq_true rfl⟩) dLw_main_913 (rfl : kC[5]? = _) mA_0 rfl rfl (Nat.le_of_ble_eq_true rfl) ⟨by show _ ≤ 644430; omega, by show _ ≤ 7162781; omega⟩ (fun r5 u6 h => ?_)
  refine jr_perm (ws := lM cI cII cL cJ ad am ao K F u2.1 u2.2 u6) (ws' := lV cI cII cL cJ ad am ao K F u2.1 u2.2 u6) lM_P lM_D ?_
  refine jr_iload (q := 1) C dLw_main_916 rfl ?_
  obtain ⟨e7, h⟩ := h
  refine jr_icmp_eq (tgt := 923) C dLw_main_918 (by decide) (fun _ => ?_) (fun q => absurd e7 q)
  refine jr_iload (q := 1) C dLw_main_923 rfl ?_
  refine jr_if_ne (tgt := 940) C dLw_main_925 (by decide) (fun z => ?_) (fun z => ?_)
  · refine jr_goto (tgt := 1696) C dLw_main_940 (by decide) ?_
    refine jr_lv (lv' := [(0, .ref b), (1, .ref (ad 0)), (2, .ref (am 0)), (3, .ref ao), (4, .int x4)]) [2, 3, 4, 5, 6] rfl ?_
    exact kk u2.1 u2.2 u6 h.2
  · refine jr_aload_n (q := 5) C dLw_main_928 rfl rfl ?_
    refine jr_iconst (v := 0) C dLw_main_929 (by decide) ?_
    refine jr_lald (t0 := 3) C dLw_main_930 oA rfl vi_01 ?_
    refine jr_iload (q := 0) C dLw_main_931 rfl ?_
    refine jr_i2l C dLw_main_933 ?_
    refine jr_lcmp C dLw_main_934 ?_
    refine jr_if_eq (tgt := 940) C dLw_main_935 (by decide) (fun _ => ?_) (fun q => absurd ((lg_cmp_eq _ _).mpr (h.1 z)) q)
    refine jr_goto (tgt := 1696) C dLw_main_940 (by decide) ?_
    refine jr_lv (lv' := [(0, .ref b), (1, .ref (ad 0)), (2, .ref (am 0)), (3, .ref ao), (4, .int x4)]) [2, 3, 4, 5, 6] rfl ?_
    exact kk u2.1 u2.2 u6 h.2
def wc_12 (K F : Nat) (st : jS) (f : Nat → Int64) (sm : jS) (a1 : Int32) (a2 : Int32) (a3 : Int32) (a4 : Int32) (cont : jS → (Nat → Int64) → jS → Prop) : Prop :=
  wp_KT_unknown K F st (fun r1 u2 => wp_Mo_unknown sm (fun r3 u4 => r1 = r3 ∧ cont u2 f u4))
set_option maxRecDepth 100000 in
set_option maxHeartbeats 4000000 in
theorem lc_12 {p : Program} {l : Launch} {e : Env} {s : State} {m : MethodId} {below : List Frame} {meth : Method} {c : Code} {D : va_G} {cI cII cL cJ : ClassId} {ad am sa : Nat → Nat} {ao K F b L cells slots : Nat} {xs : Nat → Int32} {x4 : Int32} {A : Nat → Prop} {Q : State → Prop} {st sm : jS} {f : Nat → Int64} {cont : jS → (Nat → Int64) → jS → Prop} (hl0 : l.stackTraces = false) (C : jr_C p s m #[Value.ref b] c code 8 "KindTablesLaw" lTs D kC (kT cI cII cL cJ) A) (hZ : jr_Z A s s.heap) (hs9 : ∀ q ∈ kS sa, vk_R q.1 q.2.1 q.2.2.1 q.2.2.2 s) (hnc : jNc s) (hX : va_X b L xs s s.heap) (hbl : b < s.heap.size) (hbA : ¬ A b) (h1 : vp_in (x4 + 1) L) (h2 : vp_in (x4 + 2) L) (h3 : vp_in (x4 + 3) L) (h4 : vp_in (x4 + 4) L) (hce : cells ≤ 600000) (hsl : slots ≤ 7000000) (h : wc_12 K F st f sm (xs (Int32.toNatClampNeg (x4 + 1))) (xs (Int32.toNatClampNeg (x4 + 2))) (xs (Int32.toNatClampNeg (x4 + 3))) (xs (Int32.toNatClampNeg (x4 + 4))) cont) (kk : ∀ (st : jS) (f : Nat → Int64) (sm : jS), cont st f sm → jr_J p l e room_1 s m #[Value.ref b] below meth c A D kC 8 cells slots Q (lV cI cII cL cJ ad am ao K F st f sm) 1696 [(0, .ref b), (1, .ref (ad 0)), (2, .ref (am 0)), (3, .ref ao), (4, .int x4)] []) : jr_J p l e room_1 s m #[Value.ref b] below meth c A D kC 8 cells slots Q (lV cI cII cL cJ ad am ao K F st f sm) 943 [(0, .ref b), (1, .ref (ad 0)), (2, .ref (am 0)), (3, .ref ao), (4, .int x4)] [] := by
  unfold wc_12 at h
  refine jr_aload_n (q := 1) C dLw_main_943 rfl rfl ?_
  refine jr_callVi (wf := kW cI cII cL ad K F (oC cJ ao f :: mW cI am [] sm)) (As := []) (rest := []) C (c_KT_unknown h) (cwV 0 C.2.2.2.2.1 (tg_V tm1_151 tm1_152 tm1_153 tm1_1 tm1_154) rfl rfl rfl ⟨rfl, by decide, by decide, by decide⟩ ⟨Nat.le_of_ble_eq_true rfl, Nat.le_of_ble_eq_true rfl⟩) dLw_main_944 (rfl : kC[0]? = _) kA_0 rfl rfl (Nat.le_of_ble_eq_true rfl) ⟨by show _ ≤ 644430; omega, by show _ ≤ 7162781; omega⟩ (fun r1 u2 h => ?_)
  refine jr_aload_n (q := 2) C dLw_main_947 rfl rfl ?_
  refine jr_perm (ws' := lM cI cII cL cJ ad am ao K F u2 f sm) lV_P lV_D ?_
  refine jr_callVi (wf := mW cI am (kW cI cII cL ad K F [oC cJ ao f] u2)) (As := []) (rest := [.int r1]) C (c_Mo_unknown h) (cwV 0 C.2.2.2.2.1 (tg_V tm4_30 tm4_31 tm4_32 tm1_7 tm4_33) rfl rfl rfl ⟨rfl, by decide, by decide, by decide⟩ ⟨Nat.le_of_ble_eq_true rfl, Nat.le_of_ble_eq_true rfl⟩) dLw_main_948 (rfl : kC[5]? = _) mA_0 rfl rfl (Nat.le_of_ble_eq_true rfl) ⟨by show _ ≤ 644430; omega, by show _ ≤ 7162781; omega⟩ (fun r3 u4 h => ?_)
  refine jr_perm (ws := lM cI cII cL cJ ad am ao K F u2 f u4) (ws' := lV cI cII cL cJ ad am ao K F u2 f u4) lM_P lM_D ?_
  obtain ⟨e5, h⟩ := h
  refine jr_icmp_eq (tgt := 1696) C dLw_main_951 (by decide) (fun _ => ?_) (fun q => absurd e5 q)
  exact kk u2 f u4 h
def wc_13 (K F : Nat) (st : jS) (f : Nat → Int64) (sm : jS) (a1 : Int32) (a2 : Int32) (a3 : Int32) (a4 : Int32) (cont : jS → (Nat → Int64) → jS → Prop) : Prop :=
  wp_Lw_mixed K F st f a1 a2 (fun r1 u2 => wp_Mo_mixed sm a1 a2 (fun r3 u4 => wp_Mo_thrown u4 (fun r5 u6 => r5 = r1 ∧ (r1 = 0 → (u2.2 (Int32.toNatClampNeg 0)) = r3.toInt64) ∧ cont u2.1 u2.2 u6)))
set_option maxRecDepth 100000 in
set_option maxHeartbeats 4000000 in
theorem lc_13 {p : Program} {l : Launch} {e : Env} {s : State} {m : MethodId} {below : List Frame} {meth : Method} {c : Code} {D : va_G} {cI cII cL cJ : ClassId} {ad am sa : Nat → Nat} {ao K F b L cells slots : Nat} {xs : Nat → Int32} {x4 : Int32} {A : Nat → Prop} {Q : State → Prop} {st sm : jS} {f : Nat → Int64} {cont : jS → (Nat → Int64) → jS → Prop} (hl0 : l.stackTraces = false) (C : jr_C p s m #[Value.ref b] c code 8 "KindTablesLaw" lTs D kC (kT cI cII cL cJ) A) (hZ : jr_Z A s s.heap) (hs9 : ∀ q ∈ kS sa, vk_R q.1 q.2.1 q.2.2.1 q.2.2.2 s) (hnc : jNc s) (hX : va_X b L xs s s.heap) (hbl : b < s.heap.size) (hbA : ¬ A b) (h1 : vp_in (x4 + 1) L) (h2 : vp_in (x4 + 2) L) (h3 : vp_in (x4 + 3) L) (h4 : vp_in (x4 + 4) L) (hce : cells ≤ 600000) (hsl : slots ≤ 7000000) (h : wc_13 K F st f sm (xs (Int32.toNatClampNeg (x4 + 1))) (xs (Int32.toNatClampNeg (x4 + 2))) (xs (Int32.toNatClampNeg (x4 + 3))) (xs (Int32.toNatClampNeg (x4 + 4))) cont) (kk : ∀ (st : jS) (f : Nat → Int64) (sm : jS), cont st f sm → jr_J p l e room_1 s m #[Value.ref b] below meth c A D kC 8 (cells + 2) (slots + 12) Q (lV cI cII cL cJ ad am ao K F st f sm) 1696 [(0, .ref b), (1, .ref (ad 0)), (2, .ref (am 0)), (3, .ref ao), (4, .int x4)] []) : jr_J p l e room_1 s m #[Value.ref b] below meth c A D kC 8 cells slots Q (lV cI cII cL cJ ad am ao K F st f sm) 956 [(0, .ref b), (1, .ref (ad 0)), (2, .ref (am 0)), (3, .ref ao), (4, .int x4)] [] := by
  unfold wc_13 at h
  refine jr_aload_n (q := 1) C dLw_main_956 rfl rfl ?_
  refine jr_aload_n (q := 0) C dLw_main_957 rfl rfl ?_
  refine jr_iload (q := 4) C dLw_main_958 rfl ?_
  refine jr_iconst (v := 1) C dLw_main_960 (by decide) ?_
  refine jr_iadd C dLw_main_961 ?_
  refine jr_sld C hX hbl hbA h1 dLw_main_962 ?_
  refine jr_aload_n (q := 0) C dLw_main_963 rfl rfl ?_
  refine jr_iload (q := 4) C dLw_main_964 rfl ?_
  refine jr_iconst (v := 2) C dLw_main_966 (by decide) ?_
  refine jr_iadd C dLw_main_967 ?_
  refine jr_sld C hX hbl hbA h2 dLw_main_968 ?_
  refine jr_aload_n (q := 3) C dLw_main_969 rfl rfl ?_
  refine jr_callNi (wf := oW cI cII cL cJ ad ao K F (mW cI am [] sm)) (As := [.ref (ad 0), .int (xs (Int32.toNatClampNeg (x4 + 1))), .int (xs (Int32.toNatClampNeg (x4 + 2))), .ref ao]) (rest := []) C hZ hs9 hnc (c_Lw_mixed hl0 h) (vx_cwSW 4 C.2.2.2.2.1 (tg_SW tm2_203 tm2_204 tm1_0 tm2_205) rfl rfl rfl ⟨by decide, by decide, by decide⟩ ⟨Nat.le_of_ble_eq_true rfl, Nat.le_of_ble_eq_true rfl⟩) dLw_main_970 rfl rfl (Nat.le_of_ble_eq_true rfl) ⟨by show _ ≤ 644430; omega, by show _ ≤ 7162781; omega⟩ (fun r1 u2 h => ?_)
  refine jr_istore (lv' := [(5, .int r1), (0, .ref b), (1, .ref (ad 0)), (2, .ref (am 0)), (3, .ref ao), (4, .int x4)]) C dLw_main_973 (by decide) rfl ?_
  refine jr_aload_n (q := 3) C dLw_main_975 rfl rfl ?_
  refine jr_aload_n (q := 1) C dLw_main_976 rfl rfl ?_
  refine jr_iload (q := 5) C dLw_main_977 rfl ?_
  refine jr_iconst (v := 1) C dLw_main_979 (by decide) ?_
  refine jr_iadd C dLw_main_980 ?_
  refine jr_sld C hX hbl hbA h1 dLw_main_981 ?_
  refine jr_aload_n (q := 1) C dLw_main_982 rfl rfl ?_
  refine jr_iload (q := 5) C dLw_main_983 rfl ?_
  refine jr_iconst (v := 2) C dLw_main_985 (by decide) ?_
  refine jr_iadd C dLw_main_986 ?_
  refine jr_sld C hX hbl hbA h2 dLw_main_987 ?_
  refine jr_perm (ws' := lM cI cII cL cJ ad am ao K F u2.1 u2.2 sm) lV_P lV_D ?_
  refine jr_callVi (wf := mW cI am (kW cI cII cL ad K F [oC cJ ao u2.2] u2.1)) (As := [.int (xs (Int32.toNatClampNeg (x4 + 1))), .int (xs (Int32.toNatClampNeg (x4 + 2)))]) (rest := []) C (c_Mo_mixed h) (cwV 2 C.2.2.2.2.1 (tg_V tm4_34 tm4_35 tm4_36 tm1_7 tm4_37) rfl rfl rfl ⟨rfl, by decide, by decide, by decide⟩ ⟨Nat.le_of_ble_eq_true rfl, Nat.le_of_ble_eq_true rfl⟩) dLw_main_988 (rfl : kC[5]? = _) mA_0 rfl rfl (Nat.le_of_ble_eq_true rfl) ⟨by show _ ≤ 644430; omega, by show _ ≤ 7162781; omega⟩ (fun r3 u4 h => ?_)
  refine jr_perm (ws := lM cI cII cL cJ ad am ao K F u2.1 u2.2 u4) (ws' := lV cI cII cL cJ ad am ao K F u2.1 u2.2 u4) lM_P lM_D ?_
  refine jr_istore (lv' := [(6, .int r3), (5, .int r1), (0, .ref b), (1, .ref (ad 0)), (2, .ref (am 0)), (3, .ref ao), (4, .int x4)]) C dLw_main_991 (by decide) rfl ?_
  refine jr_aload_n (q := 4) C dLw_main_993 rfl rfl ?_
  refine jr_perm (ws' := lM cI cII cL cJ ad am ao K F u2.1 u2.2 u4) lV_P lV_D ?_
  refine jr_callVi (wf := mW cI am (kW cI cII cL ad K F [oC cJ ao u2.2] u2.1)) (As := []) (rest := []) C (c_Mo_thrown h) (cwV 0 C.2.2.2.2.1 (tg_V tm3_181 tm3_182 tm3_183 tm1_7 tm3_184) rfl rfl rfl ⟨rfl, by decide, by decide, by decide⟩ ⟨Nat.le_of_ble_eq_true rfl, Nat.le_of_ble_eq_true rfl⟩) dLw_main_994 (rfl : kC[5]? = _) mA_0 rfl rfl (Nat.le_of_ble_eq_true rfl) ⟨by show _ ≤ 644430; omega, by show _ ≤ 7162781; omega⟩ (fun r5 u6 h => ?_)
  refine jr_perm (ws := lM cI cII cL cJ ad am ao K F u2.1 u2.2 u6) (ws' := lV cI cII cL cJ ad am ao K F u2.1 u2.2 u6) lM_P lM_D ?_
  refine jr_iload (q := 1) C dLw_main_997 rfl ?_
  obtain ⟨e7, h⟩ := h
  refine jr_icmp_eq (tgt := 1004) C dLw_main_999 (by decide) (fun _ => ?_) (fun q => absurd e7 q)
  refine jr_iload (q := 1) C dLw_main_1004 rfl ?_
  refine jr_if_ne (tgt := 1021) C dLw_main_1006 (by decide) (fun z => ?_) (fun z => ?_)
  · refine jr_goto (tgt := 1696) C dLw_main_1021 (by decide) ?_
    refine jr_lv (lv' := [(0, .ref b), (1, .ref (ad 0)), (2, .ref (am 0)), (3, .ref ao), (4, .int x4)]) [2, 3, 4, 5, 6] rfl ?_
    exact kk u2.1 u2.2 u6 h.2
  · refine jr_aload_n (q := 5) C dLw_main_1009 rfl rfl ?_
    refine jr_iconst (v := 0) C dLw_main_1010 (by decide) ?_
    refine jr_lald (t0 := 3) C dLw_main_1011 oA rfl vi_01 ?_
    refine jr_iload (q := 0) C dLw_main_1012 rfl ?_
    refine jr_i2l C dLw_main_1014 ?_
    refine jr_lcmp C dLw_main_1015 ?_
    refine jr_if_eq (tgt := 1021) C dLw_main_1016 (by decide) (fun _ => ?_) (fun q => absurd ((lg_cmp_eq _ _).mpr (h.1 z)) q)
    refine jr_goto (tgt := 1696) C dLw_main_1021 (by decide) ?_
    refine jr_lv (lv' := [(0, .ref b), (1, .ref (ad 0)), (2, .ref (am 0)), (3, .ref ao), (4, .int x4)]) [2, 3, 4, 5, 6] rfl ?_
    exact kk u2.1 u2.2 u6 h.2
def wc_14 (K F : Nat) (st : jS) (f : Nat → Int64) (sm : jS) (a1 : Int32) (a2 : Int32) (a3 : Int32) (a4 : Int32) (cont : jS → (Nat → Int64) → jS → Prop) : Prop :=
  wp_Lw_groups K F st f a1 (fun r1 u2 => wp_Mo_groups sm a1 (fun r3 u4 => wp_Mo_thrown u4 (fun r5 u6 => r5 = r1 ∧ (r1 = 0 → (u2.2 (Int32.toNatClampNeg 0)) = r3.toInt64) ∧ cont u2.1 u2.2 u6)))
set_option maxRecDepth 100000 in
set_option maxHeartbeats 4000000 in
theorem lc_14 {p : Program} {l : Launch} {e : Env} {s : State} {m : MethodId} {below : List Frame} {meth : Method} {c : Code} {D : va_G} {cI cII cL cJ : ClassId} {ad am sa : Nat → Nat} {ao K F b L cells slots : Nat} {xs : Nat → Int32} {x4 : Int32} {A : Nat → Prop} {Q : State → Prop} {st sm : jS} {f : Nat → Int64} {cont : jS → (Nat → Int64) → jS → Prop} (hl0 : l.stackTraces = false) (C : jr_C p s m #[Value.ref b] c code 8 "KindTablesLaw" lTs D kC (kT cI cII cL cJ) A) (hZ : jr_Z A s s.heap) (hs9 : ∀ q ∈ kS sa, vk_R q.1 q.2.1 q.2.2.1 q.2.2.2 s) (hnc : jNc s) (hX : va_X b L xs s s.heap) (hbl : b < s.heap.size) (hbA : ¬ A b) (h1 : vp_in (x4 + 1) L) (h2 : vp_in (x4 + 2) L) (h3 : vp_in (x4 + 3) L) (h4 : vp_in (x4 + 4) L) (hce : cells ≤ 600000) (hsl : slots ≤ 7000000) (h : wc_14 K F st f sm (xs (Int32.toNatClampNeg (x4 + 1))) (xs (Int32.toNatClampNeg (x4 + 2))) (xs (Int32.toNatClampNeg (x4 + 3))) (xs (Int32.toNatClampNeg (x4 + 4))) cont) (kk : ∀ (st : jS) (f : Nat → Int64) (sm : jS), cont st f sm → jr_J p l e room_1 s m #[Value.ref b] below meth c A D kC 8 (cells + 1) (slots + 6) Q (lV cI cII cL cJ ad am ao K F st f sm) 1696 [(0, .ref b), (1, .ref (ad 0)), (2, .ref (am 0)), (3, .ref ao), (4, .int x4)] []) : jr_J p l e room_1 s m #[Value.ref b] below meth c A D kC 8 cells slots Q (lV cI cII cL cJ ad am ao K F st f sm) 1024 [(0, .ref b), (1, .ref (ad 0)), (2, .ref (am 0)), (3, .ref ao), (4, .int x4)] [] := by
  unfold wc_14 at h
  refine jr_aload_n (q := 1) C dLw_main_1024 rfl rfl ?_
  refine jr_aload_n (q := 0) C dLw_main_1025 rfl rfl ?_
  refine jr_iload (q := 4) C dLw_main_1026 rfl ?_
  refine jr_iconst (v := 1) C dLw_main_1028 (by decide) ?_
  refine jr_iadd C dLw_main_1029 ?_
  refine jr_sld C hX hbl hbA h1 dLw_main_1030 ?_
  refine jr_aload_n (q := 3) C dLw_main_1031 rfl rfl ?_
  refine jr_callNi (wf := oW cI cII cL cJ ad ao K F (mW cI am [] sm)) (As := [.ref (ad 0), .int (xs (Int32.toNatClampNeg (x4 + 1))), .ref ao]) (rest := []) C hZ hs9 hnc (c_Lw_groups hl0 h) (vx_cwSW 3 C.2.2.2.2.1 (tg_SW tm2_210 tm2_211 tm1_0 tm2_212) rfl rfl rfl ⟨by decide, by decide, by decide⟩ ⟨Nat.le_of_ble_eq_true rfl, Nat.le_of_ble_eq_true rfl⟩) dLw_main_1032 rfl rfl (Nat.le_of_ble_eq_true rfl) ⟨by show _ ≤ 644430; omega, by show _ ≤ 7162781; omega⟩ (fun r1 u2 h => ?_)
  refine jr_istore (lv' := [(5, .int r1), (0, .ref b), (1, .ref (ad 0)), (2, .ref (am 0)), (3, .ref ao), (4, .int x4)]) C dLw_main_1035 (by decide) rfl ?_
  refine jr_aload_n (q := 3) C dLw_main_1037 rfl rfl ?_
  refine jr_aload_n (q := 1) C dLw_main_1038 rfl rfl ?_
  refine jr_iload (q := 5) C dLw_main_1039 rfl ?_
  refine jr_iconst (v := 1) C dLw_main_1041 (by decide) ?_
  refine jr_iadd C dLw_main_1042 ?_
  refine jr_sld C hX hbl hbA h1 dLw_main_1043 ?_
  refine jr_perm (ws' := lM cI cII cL cJ ad am ao K F u2.1 u2.2 sm) lV_P lV_D ?_
  refine jr_callVi (wf := mW cI am (kW cI cII cL ad K F [oC cJ ao u2.2] u2.1)) (As := [.int (xs (Int32.toNatClampNeg (x4 + 1)))]) (rest := []) C (c_Mo_groups h) (cwV 1 C.2.2.2.2.1 (tg_V tm4_38 tm4_39 tm4_40 tm1_7 tm4_41) rfl rfl rfl ⟨rfl, by decide, by decide, by decide⟩ ⟨Nat.le_of_ble_eq_true rfl, Nat.le_of_ble_eq_true rfl⟩) dLw_main_1044 (rfl : kC[5]? = _) mA_0 rfl rfl (Nat.le_of_ble_eq_true rfl) ⟨by show _ ≤ 644430; omega, by show _ ≤ 7162781; omega⟩ (fun r3 u4 h => ?_)
  refine jr_perm (ws := lM cI cII cL cJ ad am ao K F u2.1 u2.2 u4) (ws' := lV cI cII cL cJ ad am ao K F u2.1 u2.2 u4) lM_P lM_D ?_
  refine jr_istore (lv' := [(6, .int r3), (5, .int r1), (0, .ref b), (1, .ref (ad 0)), (2, .ref (am 0)), (3, .ref ao), (4, .int x4)]) C dLw_main_1047 (by decide) rfl ?_
  refine jr_aload_n (q := 4) C dLw_main_1049 rfl rfl ?_
  refine jr_perm (ws' := lM cI cII cL cJ ad am ao K F u2.1 u2.2 u4) lV_P lV_D ?_
  refine jr_callVi (wf := mW cI am (kW cI cII cL ad K F [oC cJ ao u2.2] u2.1)) (As := []) (rest := []) C (c_Mo_thrown h) (cwV 0 C.2.2.2.2.1 (tg_V tm3_181 tm3_182 tm3_183 tm1_7 tm3_184) rfl rfl rfl ⟨rfl, by decide, by decide, by decide⟩ ⟨Nat.le_of_ble_eq_true rfl, Nat.le_of_ble_eq_true rfl⟩) dLw_main_1050 (rfl : kC[5]? = _) mA_0 rfl rfl (Nat.le_of_ble_eq_true rfl) ⟨by show _ ≤ 644430; omega, by show _ ≤ 7162781; omega⟩ (fun r5 u6 h => ?_)
  refine jr_perm (ws := lM cI cII cL cJ ad am ao K F u2.1 u2.2 u6) (ws' := lV cI cII cL cJ ad am ao K F u2.1 u2.2 u6) lM_P lM_D ?_
  refine jr_iload (q := 1) C dLw_main_1053 rfl ?_
  obtain ⟨e7, h⟩ := h
  refine jr_icmp_eq (tgt := 1060) C dLw_main_1055 (by decide) (fun _ => ?_) (fun q => absurd e7 q)
  refine jr_iload (q := 1) C dLw_main_1060 rfl ?_
  refine jr_if_ne (tgt := 1077) C dLw_main_1062 (by decide) (fun z => ?_) (fun z => ?_)
  · refine jr_goto (tgt := 1696) C dLw_main_1077 (by decide) ?_
    refine jr_lv (lv' := [(0, .ref b), (1, .ref (ad 0)), (2, .ref (am 0)), (3, .ref ao), (4, .int x4)]) [2, 3, 4, 5, 6] rfl ?_
    exact kk u2.1 u2.2 u6 h.2
  · refine jr_aload_n (q := 5) C dLw_main_1065 rfl rfl ?_
    refine jr_iconst (v := 0) C dLw_main_1066 (by decide) ?_
    refine jr_lald (t0 := 3) C dLw_main_1067 oA rfl vi_01 ?_
    refine jr_iload (q := 0) C dLw_main_1068 rfl ?_
    refine jr_i2l C dLw_main_1070 ?_
    refine jr_lcmp C dLw_main_1071 ?_
    refine jr_if_eq (tgt := 1077) C dLw_main_1072 (by decide) (fun _ => ?_) (fun q => absurd ((lg_cmp_eq _ _).mpr (h.1 z)) q)
    refine jr_goto (tgt := 1696) C dLw_main_1077 (by decide) ?_
    refine jr_lv (lv' := [(0, .ref b), (1, .ref (ad 0)), (2, .ref (am 0)), (3, .ref ao), (4, .int x4)]) [2, 3, 4, 5, 6] rfl ?_
    exact kk u2.1 u2.2 u6 h.2
def wc_15 (K F : Nat) (st : jS) (f : Nat → Int64) (sm : jS) (a1 : Int32) (a2 : Int32) (a3 : Int32) (a4 : Int32) (cont : jS → (Nat → Int64) → jS → Prop) : Prop :=
  wp_Lw_nearest K F st f a1 a2 (fun r1 u2 => wp_Mo_nearest sm a1 a2 (fun r3 u4 => wp_Mo_thrown u4 (fun r5 u6 => r5 = r1 ∧ (r1 = 0 → (u2.2 (Int32.toNatClampNeg 0)) = r3.toInt64) ∧ cont u2.1 u2.2 u6)))
set_option maxRecDepth 100000 in
set_option maxHeartbeats 4000000 in
theorem lc_15 {p : Program} {l : Launch} {e : Env} {s : State} {m : MethodId} {below : List Frame} {meth : Method} {c : Code} {D : va_G} {cI cII cL cJ : ClassId} {ad am sa : Nat → Nat} {ao K F b L cells slots : Nat} {xs : Nat → Int32} {x4 : Int32} {A : Nat → Prop} {Q : State → Prop} {st sm : jS} {f : Nat → Int64} {cont : jS → (Nat → Int64) → jS → Prop} (hl0 : l.stackTraces = false) (C : jr_C p s m #[Value.ref b] c code 8 "KindTablesLaw" lTs D kC (kT cI cII cL cJ) A) (hZ : jr_Z A s s.heap) (hs9 : ∀ q ∈ kS sa, vk_R q.1 q.2.1 q.2.2.1 q.2.2.2 s) (hnc : jNc s) (hX : va_X b L xs s s.heap) (hbl : b < s.heap.size) (hbA : ¬ A b) (h1 : vp_in (x4 + 1) L) (h2 : vp_in (x4 + 2) L) (h3 : vp_in (x4 + 3) L) (h4 : vp_in (x4 + 4) L) (hce : cells ≤ 600000) (hsl : slots ≤ 7000000) (h : wc_15 K F st f sm (xs (Int32.toNatClampNeg (x4 + 1))) (xs (Int32.toNatClampNeg (x4 + 2))) (xs (Int32.toNatClampNeg (x4 + 3))) (xs (Int32.toNatClampNeg (x4 + 4))) cont) (kk : ∀ (st : jS) (f : Nat → Int64) (sm : jS), cont st f sm → jr_J p l e room_1 s m #[Value.ref b] below meth c A D kC 8 (cells + 2) (slots + 12) Q (lV cI cII cL cJ ad am ao K F st f sm) 1696 [(0, .ref b), (1, .ref (ad 0)), (2, .ref (am 0)), (3, .ref ao), (4, .int x4)] []) : jr_J p l e room_1 s m #[Value.ref b] below meth c A D kC 8 cells slots Q (lV cI cII cL cJ ad am ao K F st f sm) 1080 [(0, .ref b), (1, .ref (ad 0)), (2, .ref (am 0)), (3, .ref ao), (4, .int x4)] [] := by
  unfold wc_15 at h
  refine jr_aload_n (q := 1) C dLw_main_1080 rfl rfl ?_
  refine jr_aload_n (q := 0) C dLw_main_1081 rfl rfl ?_
  refine jr_iload (q := 4) C dLw_main_1082 rfl ?_
  refine jr_iconst (v := 1) C dLw_main_1084 (by decide) ?_
  refine jr_iadd C dLw_main_1085 ?_
  refine jr_sld C hX hbl hbA h1 dLw_main_1086 ?_
  refine jr_aload_n (q := 0) C dLw_main_1087 rfl rfl ?_
  refine jr_iload (q := 4) C dLw_main_1088 rfl ?_
  refine jr_iconst (v := 2) C dLw_main_1090 (by decide) ?_
  refine jr_iadd C dLw_main_1091 ?_
  refine jr_sld C hX hbl hbA h2 dLw_main_1092 ?_
  refine jr_aload_n (q := 3) C dLw_main_1093 rfl rfl ?_
  refine jr_callNi (wf := oW cI cII cL cJ ad ao K F (mW cI am [] sm)) (As := [.ref (ad 0), .int (xs (Int32.toNatClampNeg (x4 + 1))), .int (xs (Int32.toNatClampNeg (x4 + 2))), .ref ao]) (rest := []) C hZ hs9 hnc (c_Lw_nearest hl0 h) (vx_cwSW 4 C.2.2.2.2.1 (tg_SW tm2_226 tm2_227 tm1_0 tm2_228) rfl rfl rfl ⟨by decide, by decide, by decide⟩ ⟨Nat.le_of_ble_eq_true rfl, Nat.le_of_ble_eq_true rfl⟩) dLw_main_1094 rfl rfl (Nat.le_of_ble_eq_true rfl) ⟨by show _ ≤ 644430; omega, by show _ ≤ 7162781; omega⟩ (fun r1 u2 h => ?_)
  refine jr_istore (lv' := [(5, .int r1), (0, .ref b), (1, .ref (ad 0)), (2, .ref (am 0)), (3, .ref ao), (4, .int x4)]) C dLw_main_1097 (by decide) rfl ?_
  refine jr_aload_n (q := 3) C dLw_main_1099 rfl rfl ?_
  refine jr_aload_n (q := 1) C dLw_main_1100 rfl rfl ?_
  refine jr_iload (q := 5) C dLw_main_1101 rfl ?_
  refine jr_iconst (v := 1) C dLw_main_1103 (by decide) ?_
  refine jr_iadd C dLw_main_1104 ?_
  refine jr_sld C hX hbl hbA h1 dLw_main_1105 ?_
  refine jr_aload_n (q := 1) C dLw_main_1106 rfl rfl ?_
  refine jr_iload (q := 5) C dLw_main_1107 rfl ?_
  refine jr_iconst (v := 2) C dLw_main_1109 (by decide) ?_
  refine jr_iadd C dLw_main_1110 ?_
  refine jr_sld C hX hbl hbA h2 dLw_main_1111 ?_
  refine jr_perm (ws' := lM cI cII cL cJ ad am ao K F u2.1 u2.2 sm) lV_P lV_D ?_
  refine jr_callVi (wf := mW cI am (kW cI cII cL ad K F [oC cJ ao u2.2] u2.1)) (As := [.int (xs (Int32.toNatClampNeg (x4 + 1))), .int (xs (Int32.toNatClampNeg (x4 + 2)))]) (rest := []) C (c_Mo_nearest h) (cwV 2 C.2.2.2.2.1 (tg_V tm4_46 tm4_47 tm4_48 tm1_7 tm4_49) rfl rfl rfl ⟨rfl, by decide, by decide, by decide⟩ ⟨Nat.le_of_ble_eq_true rfl, Nat.le_of_ble_eq_true rfl⟩) dLw_main_1112 (rfl : kC[5]? = _) mA_0 rfl rfl (Nat.le_of_ble_eq_true rfl) ⟨by show _ ≤ 644430; omega, by show _ ≤ 7162781; omega⟩ (fun r3 u4 h => ?_)
  refine jr_perm (ws := lM cI cII cL cJ ad am ao K F u2.1 u2.2 u4) (ws' := lV cI cII cL cJ ad am ao K F u2.1 u2.2 u4) lM_P lM_D ?_
  refine jr_istore (lv' := [(6, .int r3), (5, .int r1), (0, .ref b), (1, .ref (ad 0)), (2, .ref (am 0)), (3, .ref ao), (4, .int x4)]) C dLw_main_1115 (by decide) rfl ?_
  refine jr_aload_n (q := 4) C dLw_main_1117 rfl rfl ?_
  refine jr_perm (ws' := lM cI cII cL cJ ad am ao K F u2.1 u2.2 u4) lV_P lV_D ?_
  refine jr_callVi (wf := mW cI am (kW cI cII cL ad K F [oC cJ ao u2.2] u2.1)) (As := []) (rest := []) C (c_Mo_thrown h) (cwV 0 C.2.2.2.2.1 (tg_V tm3_181 tm3_182 tm3_183 tm1_7 tm3_184) rfl rfl rfl ⟨rfl, by decide, by decide, by decide⟩ ⟨Nat.le_of_ble_eq_true rfl, Nat.le_of_ble_eq_true rfl⟩) dLw_main_1118 (rfl : kC[5]? = _) mA_0 rfl rfl (Nat.le_of_ble_eq_true rfl) ⟨by show _ ≤ 644430; omega, by show _ ≤ 7162781; omega⟩ (fun r5 u6 h => ?_)
  refine jr_perm (ws := lM cI cII cL cJ ad am ao K F u2.1 u2.2 u6) (ws' := lV cI cII cL cJ ad am ao K F u2.1 u2.2 u6) lM_P lM_D ?_
  refine jr_iload (q := 1) C dLw_main_1121 rfl ?_
  obtain ⟨e7, h⟩ := h
  refine jr_icmp_eq (tgt := 1128) C dLw_main_1123 (by decide) (fun _ => ?_) (fun q => absurd e7 q)
  refine jr_iload (q := 1) C dLw_main_1128 rfl ?_
  refine jr_if_ne (tgt := 1145) C dLw_main_1130 (by decide) (fun z => ?_) (fun z => ?_)
  · refine jr_goto (tgt := 1696) C dLw_main_1145 (by decide) ?_
    refine jr_lv (lv' := [(0, .ref b), (1, .ref (ad 0)), (2, .ref (am 0)), (3, .ref ao), (4, .int x4)]) [2, 3, 4, 5, 6] rfl ?_
    exact kk u2.1 u2.2 u6 h.2
  · refine jr_aload_n (q := 5) C dLw_main_1133 rfl rfl ?_
    refine jr_iconst (v := 0) C dLw_main_1134 (by decide) ?_
    refine jr_lald (t0 := 3) C dLw_main_1135 oA rfl vi_01 ?_
    refine jr_iload (q := 0) C dLw_main_1136 rfl ?_
    refine jr_i2l C dLw_main_1138 ?_
    refine jr_lcmp C dLw_main_1139 ?_
    refine jr_if_eq (tgt := 1145) C dLw_main_1140 (by decide) (fun _ => ?_) (fun q => absurd ((lg_cmp_eq _ _).mpr (h.1 z)) q)
    refine jr_goto (tgt := 1696) C dLw_main_1145 (by decide) ?_
    refine jr_lv (lv' := [(0, .ref b), (1, .ref (ad 0)), (2, .ref (am 0)), (3, .ref ao), (4, .int x4)]) [2, 3, 4, 5, 6] rfl ?_
    exact kk u2.1 u2.2 u6 h.2
def wc_16 (K F : Nat) (st : jS) (f : Nat → Int64) (sm : jS) (a1 : Int32) (a2 : Int32) (a3 : Int32) (a4 : Int32) (cont : jS → (Nat → Int64) → jS → Prop) : Prop :=
  wp_Lw_distance K F st f a1 a2 (fun r1 u2 => wp_Mo_distance sm a1 a2 (fun r3 u4 => wp_Mo_thrown u4 (fun r5 u6 => r5 = r1 ∧ (r1 = 0 → (u2.2 (Int32.toNatClampNeg 0)) = r3.toInt64) ∧ cont u2.1 u2.2 u6)))
set_option maxRecDepth 100000 in
set_option maxHeartbeats 4000000 in
theorem lc_16 {p : Program} {l : Launch} {e : Env} {s : State} {m : MethodId} {below : List Frame} {meth : Method} {c : Code} {D : va_G} {cI cII cL cJ : ClassId} {ad am sa : Nat → Nat} {ao K F b L cells slots : Nat} {xs : Nat → Int32} {x4 : Int32} {A : Nat → Prop} {Q : State → Prop} {st sm : jS} {f : Nat → Int64} {cont : jS → (Nat → Int64) → jS → Prop} (hl0 : l.stackTraces = false) (C : jr_C p s m #[Value.ref b] c code 8 "KindTablesLaw" lTs D kC (kT cI cII cL cJ) A) (hZ : jr_Z A s s.heap) (hs9 : ∀ q ∈ kS sa, vk_R q.1 q.2.1 q.2.2.1 q.2.2.2 s) (hnc : jNc s) (hX : va_X b L xs s s.heap) (hbl : b < s.heap.size) (hbA : ¬ A b) (h1 : vp_in (x4 + 1) L) (h2 : vp_in (x4 + 2) L) (h3 : vp_in (x4 + 3) L) (h4 : vp_in (x4 + 4) L) (hce : cells ≤ 600000) (hsl : slots ≤ 7000000) (h : wc_16 K F st f sm (xs (Int32.toNatClampNeg (x4 + 1))) (xs (Int32.toNatClampNeg (x4 + 2))) (xs (Int32.toNatClampNeg (x4 + 3))) (xs (Int32.toNatClampNeg (x4 + 4))) cont) (kk : ∀ (st : jS) (f : Nat → Int64) (sm : jS), cont st f sm → jr_J p l e room_1 s m #[Value.ref b] below meth c A D kC 8 (cells + 2) (slots + 12) Q (lV cI cII cL cJ ad am ao K F st f sm) 1696 [(0, .ref b), (1, .ref (ad 0)), (2, .ref (am 0)), (3, .ref ao), (4, .int x4)] []) : jr_J p l e room_1 s m #[Value.ref b] below meth c A D kC 8 cells slots Q (lV cI cII cL cJ ad am ao K F st f sm) 1148 [(0, .ref b), (1, .ref (ad 0)), (2, .ref (am 0)), (3, .ref ao), (4, .int x4)] [] := by
  unfold wc_16 at h
  refine jr_aload_n (q := 1) C dLw_main_1148 rfl rfl ?_
  refine jr_aload_n (q := 0) C dLw_main_1149 rfl rfl ?_
  refine jr_iload (q := 4) C dLw_main_1150 rfl ?_
  refine jr_iconst (v := 1) C dLw_main_1152 (by decide) ?_
  refine jr_iadd C dLw_main_1153 ?_
  refine jr_sld C hX hbl hbA h1 dLw_main_1154 ?_
  refine jr_aload_n (q := 0) C dLw_main_1155 rfl rfl ?_
  refine jr_iload (q := 4) C dLw_main_1156 rfl ?_
  refine jr_iconst (v := 2) C dLw_main_1158 (by decide) ?_
  refine jr_iadd C dLw_main_1159 ?_
  refine jr_sld C hX hbl hbA h2 dLw_main_1160 ?_
  refine jr_aload_n (q := 3) C dLw_main_1161 rfl rfl ?_
  refine jr_callNi (wf := oW cI cII cL cJ ad ao K F (mW cI am [] sm)) (As := [.ref (ad 0), .int (xs (Int32.toNatClampNeg (x4 + 1))), .int (xs (Int32.toNatClampNeg (x4 + 2))), .ref ao]) (rest := []) C hZ hs9 hnc (c_Lw_distance hl0 h) (vx_cwSW 4 C.2.2.2.2.1 (tg_SW tm3_13 tm3_14 tm1_0 tm3_15) rfl rfl rfl ⟨by decide, by decide, by decide⟩ ⟨Nat.le_of_ble_eq_true rfl, Nat.le_of_ble_eq_true rfl⟩) dLw_main_1162 rfl rfl (Nat.le_of_ble_eq_true rfl) ⟨by show _ ≤ 644430; omega, by show _ ≤ 7162781; omega⟩ (fun r1 u2 h => ?_)
  refine jr_istore (lv' := [(5, .int r1), (0, .ref b), (1, .ref (ad 0)), (2, .ref (am 0)), (3, .ref ao), (4, .int x4)]) C dLw_main_1165 (by decide) rfl ?_
  refine jr_aload_n (q := 3) C dLw_main_1167 rfl rfl ?_
  refine jr_aload_n (q := 1) C dLw_main_1168 rfl rfl ?_
  refine jr_iload (q := 5) C dLw_main_1169 rfl ?_
  refine jr_iconst (v := 1) C dLw_main_1171 (by decide) ?_
  refine jr_iadd C dLw_main_1172 ?_
  refine jr_sld C hX hbl hbA h1 dLw_main_1173 ?_
  refine jr_aload_n (q := 1) C dLw_main_1174 rfl rfl ?_
  refine jr_iload (q := 5) C dLw_main_1175 rfl ?_
  refine jr_iconst (v := 2) C dLw_main_1177 (by decide) ?_
  refine jr_iadd C dLw_main_1178 ?_
  refine jr_sld C hX hbl hbA h2 dLw_main_1179 ?_
  refine jr_perm (ws' := lM cI cII cL cJ ad am ao K F u2.1 u2.2 sm) lV_P lV_D ?_
  refine jr_callVi (wf := mW cI am (kW cI cII cL ad K F [oC cJ ao u2.2] u2.1)) (As := [.int (xs (Int32.toNatClampNeg (x4 + 1))), .int (xs (Int32.toNatClampNeg (x4 + 2)))]) (rest := []) C (c_Mo_distance h) (cwV 2 C.2.2.2.2.1 (tg_V tm4_58 tm4_59 tm4_60 tm1_7 tm4_61) rfl rfl rfl ⟨rfl, by decide, by decide, by decide⟩ ⟨Nat.le_of_ble_eq_true rfl, Nat.le_of_ble_eq_true rfl⟩) dLw_main_1180 (rfl : kC[5]? = _) mA_0 rfl rfl (Nat.le_of_ble_eq_true rfl) ⟨by show _ ≤ 644430; omega, by show _ ≤ 7162781; omega⟩ (fun r3 u4 h => ?_)
  refine jr_perm (ws := lM cI cII cL cJ ad am ao K F u2.1 u2.2 u4) (ws' := lV cI cII cL cJ ad am ao K F u2.1 u2.2 u4) lM_P lM_D ?_
  refine jr_istore (lv' := [(6, .int r3), (5, .int r1), (0, .ref b), (1, .ref (ad 0)), (2, .ref (am 0)), (3, .ref ao), (4, .int x4)]) C dLw_main_1183 (by decide) rfl ?_
  refine jr_aload_n (q := 4) C dLw_main_1185 rfl rfl ?_
  refine jr_perm (ws' := lM cI cII cL cJ ad am ao K F u2.1 u2.2 u4) lV_P lV_D ?_
  refine jr_callVi (wf := mW cI am (kW cI cII cL ad K F [oC cJ ao u2.2] u2.1)) (As := []) (rest := []) C (c_Mo_thrown h) (cwV 0 C.2.2.2.2.1 (tg_V tm3_181 tm3_182 tm3_183 tm1_7 tm3_184) rfl rfl rfl ⟨rfl, by decide, by decide, by decide⟩ ⟨Nat.le_of_ble_eq_true rfl, Nat.le_of_ble_eq_true rfl⟩) dLw_main_1186 (rfl : kC[5]? = _) mA_0 rfl rfl (Nat.le_of_ble_eq_true rfl) ⟨by show _ ≤ 644430; omega, by show _ ≤ 7162781; omega⟩ (fun r5 u6 h => ?_)
  refine jr_perm (ws := lM cI cII cL cJ ad am ao K F u2.1 u2.2 u6) (ws' := lV cI cII cL cJ ad am ao K F u2.1 u2.2 u6) lM_P lM_D ?_
  refine jr_iload (q := 1) C dLw_main_1189 rfl ?_
  obtain ⟨e7, h⟩ := h
  refine jr_icmp_eq (tgt := 1196) C dLw_main_1191 (by decide) (fun _ => ?_) (fun q => absurd e7 q)
  refine jr_iload (q := 1) C dLw_main_1196 rfl ?_
  refine jr_if_ne (tgt := 1213) C dLw_main_1198 (by decide) (fun z => ?_) (fun z => ?_)
  · refine jr_goto (tgt := 1696) C dLw_main_1213 (by decide) ?_
    refine jr_lv (lv' := [(0, .ref b), (1, .ref (ad 0)), (2, .ref (am 0)), (3, .ref ao), (4, .int x4)]) [2, 3, 4, 5, 6] rfl ?_
    exact kk u2.1 u2.2 u6 h.2
  · refine jr_aload_n (q := 5) C dLw_main_1201 rfl rfl ?_
    refine jr_iconst (v := 0) C dLw_main_1202 (by decide) ?_
    refine jr_lald (t0 := 3) C dLw_main_1203 oA rfl vi_01 ?_
    refine jr_iload (q := 0) C dLw_main_1204 rfl ?_
    refine jr_i2l C dLw_main_1206 ?_
    refine jr_lcmp C dLw_main_1207 ?_
    refine jr_if_eq (tgt := 1213) C dLw_main_1208 (by decide) (fun _ => ?_) (fun q => absurd ((lg_cmp_eq _ _).mpr (h.1 z)) q)
    refine jr_goto (tgt := 1696) C dLw_main_1213 (by decide) ?_
    refine jr_lv (lv' := [(0, .ref b), (1, .ref (ad 0)), (2, .ref (am 0)), (3, .ref ao), (4, .int x4)]) [2, 3, 4, 5, 6] rfl ?_
    exact kk u2.1 u2.2 u6 h.2
def wc_17 (K F : Nat) (st : jS) (f : Nat → Int64) (sm : jS) (a1 : Int32) (a2 : Int32) (a3 : Int32) (a4 : Int32) (cont : jS → (Nat → Int64) → jS → Prop) : Prop :=
  wp_Lw_haul K F st f a1 a2 (fun r1 u2 => wp_Mo_haul sm a1 a2 (fun r3 u4 => wp_Mo_thrown u4 (fun r5 u6 => r5 = r1 ∧ (r1 = 0 → (u2.2 (Int32.toNatClampNeg 0)) = r3.toInt64) ∧ cont u2.1 u2.2 u6)))
set_option maxRecDepth 100000 in
set_option maxHeartbeats 4000000 in
theorem lc_17 {p : Program} {l : Launch} {e : Env} {s : State} {m : MethodId} {below : List Frame} {meth : Method} {c : Code} {D : va_G} {cI cII cL cJ : ClassId} {ad am sa : Nat → Nat} {ao K F b L cells slots : Nat} {xs : Nat → Int32} {x4 : Int32} {A : Nat → Prop} {Q : State → Prop} {st sm : jS} {f : Nat → Int64} {cont : jS → (Nat → Int64) → jS → Prop} (hl0 : l.stackTraces = false) (C : jr_C p s m #[Value.ref b] c code 8 "KindTablesLaw" lTs D kC (kT cI cII cL cJ) A) (hZ : jr_Z A s s.heap) (hs9 : ∀ q ∈ kS sa, vk_R q.1 q.2.1 q.2.2.1 q.2.2.2 s) (hnc : jNc s) (hX : va_X b L xs s s.heap) (hbl : b < s.heap.size) (hbA : ¬ A b) (h1 : vp_in (x4 + 1) L) (h2 : vp_in (x4 + 2) L) (h3 : vp_in (x4 + 3) L) (h4 : vp_in (x4 + 4) L) (hce : cells ≤ 600000) (hsl : slots ≤ 7000000) (h : wc_17 K F st f sm (xs (Int32.toNatClampNeg (x4 + 1))) (xs (Int32.toNatClampNeg (x4 + 2))) (xs (Int32.toNatClampNeg (x4 + 3))) (xs (Int32.toNatClampNeg (x4 + 4))) cont) (kk : ∀ (st : jS) (f : Nat → Int64) (sm : jS), cont st f sm → jr_J p l e room_1 s m #[Value.ref b] below meth c A D kC 8 (cells + 3) (slots + 18) Q (lV cI cII cL cJ ad am ao K F st f sm) 1696 [(0, .ref b), (1, .ref (ad 0)), (2, .ref (am 0)), (3, .ref ao), (4, .int x4)] []) : jr_J p l e room_1 s m #[Value.ref b] below meth c A D kC 8 cells slots Q (lV cI cII cL cJ ad am ao K F st f sm) 1216 [(0, .ref b), (1, .ref (ad 0)), (2, .ref (am 0)), (3, .ref ao), (4, .int x4)] [] := by
  unfold wc_17 at h
  refine jr_aload_n (q := 1) C dLw_main_1216 rfl rfl ?_
  refine jr_aload_n (q := 0) C dLw_main_1217 rfl rfl ?_
  refine jr_iload (q := 4) C dLw_main_1218 rfl ?_
  refine jr_iconst (v := 1) C dLw_main_1220 (by decide) ?_
  refine jr_iadd C dLw_main_1221 ?_
  refine jr_sld C hX hbl hbA h1 dLw_main_1222 ?_
  refine jr_aload_n (q := 0) C dLw_main_1223 rfl rfl ?_
  refine jr_iload (q := 4) C dLw_main_1224 rfl ?_
  refine jr_iconst (v := 2) C dLw_main_1226 (by decide) ?_
  refine jr_iadd C dLw_main_1227 ?_
  refine jr_sld C hX hbl hbA h2 dLw_main_1228 ?_
  refine jr_aload_n (q := 3) C dLw_main_1229 rfl rfl ?_
  refine jr_callNi (wf := oW cI cII cL cJ ad ao K F (mW cI am [] sm)) (As := [.ref (ad 0), .int (xs (Int32.toNatClampNeg (x4 + 1))), .int (xs (Int32.toNatClampNeg (x4 + 2))), .ref ao]) (rest := []) C hZ hs9 hnc (c_Lw_haul hl0 h) (vx_cwSW 4 C.2.2.2.2.1 (tg_SW tm3_21 tm3_22 tm1_0 tm3_23) rfl rfl rfl ⟨by decide, by decide, by decide⟩ ⟨Nat.le_of_ble_eq_true rfl, Nat.le_of_ble_eq_true rfl⟩) dLw_main_1230 rfl rfl (Nat.le_of_ble_eq_true rfl) ⟨by show _ ≤ 644430; omega, by show _ ≤ 7162781; omega⟩ (fun r1 u2 h => ?_)
  refine jr_istore (lv' := [(5, .int r1), (0, .ref b), (1, .ref (ad 0)), (2, .ref (am 0)), (3, .ref ao), (4, .int x4)]) C dLw_main_1233 (by decide) rfl ?_
  refine jr_aload_n (q := 3) C dLw_main_1235 rfl rfl ?_
  refine jr_aload_n (q := 1) C dLw_main_1236 rfl rfl ?_
  refine jr_iload (q := 5) C dLw_main_1237 rfl ?_
  refine jr_iconst (v := 1) C dLw_main_1239 (by decide) ?_
  refine jr_iadd C dLw_main_1240 ?_
  refine jr_sld C hX hbl hbA h1 dLw_main_1241 ?_
  refine jr_aload_n (q := 1) C dLw_main_1242 rfl rfl ?_
  refine jr_iload (q := 5) C dLw_main_1243 rfl ?_
  refine jr_iconst (v := 2) C dLw_main_1245 (by decide) ?_
  refine jr_iadd C dLw_main_1246 ?_
  refine jr_sld C hX hbl hbA h2 dLw_main_1247 ?_
  refine jr_perm (ws' := lM cI cII cL cJ ad am ao K F u2.1 u2.2 sm) lV_P lV_D ?_
  refine jr_callVi (wf := mW cI am (kW cI cII cL ad K F [oC cJ ao u2.2] u2.1)) (As := [.int (xs (Int32.toNatClampNeg (x4 + 1))), .int (xs (Int32.toNatClampNeg (x4 + 2)))]) (rest := []) C (c_Mo_haul h) (cwV 2 C.2.2.2.2.1 (tg_V tm4_62 tm4_63 tm4_64 tm1_7 tm4_65) rfl rfl rfl ⟨rfl, by decide, by decide, by decide⟩ ⟨Nat.le_of_ble_eq_true rfl, Nat.le_of_ble_eq_true rfl⟩) dLw_main_1248 (rfl : kC[5]? = _) mA_0 rfl rfl (Nat.le_of_ble_eq_true rfl) ⟨by show _ ≤ 644430; omega, by show _ ≤ 7162781; omega⟩ (fun r3 u4 h => ?_)
  refine jr_perm (ws := lM cI cII cL cJ ad am ao K F u2.1 u2.2 u4) (ws' := lV cI cII cL cJ ad am ao K F u2.1 u2.2 u4) lM_P lM_D ?_
  refine jr_istore (lv' := [(6, .int r3), (5, .int r1), (0, .ref b), (1, .ref (ad 0)), (2, .ref (am 0)), (3, .ref ao), (4, .int x4)]) C dLw_main_1251 (by decide) rfl ?_
  refine jr_aload_n (q := 4) C dLw_main_1253 rfl rfl ?_
  refine jr_perm (ws' := lM cI cII cL cJ ad am ao K F u2.1 u2.2 u4) lV_P lV_D ?_
  refine jr_callVi (wf := mW cI am (kW cI cII cL ad K F [oC cJ ao u2.2] u2.1)) (As := []) (rest := []) C (c_Mo_thrown h) (cwV 0 C.2.2.2.2.1 (tg_V tm3_181 tm3_182 tm3_183 tm1_7 tm3_184) rfl rfl rfl ⟨rfl, by decide, by decide, by decide⟩ ⟨Nat.le_of_ble_eq_true rfl, Nat.le_of_ble_eq_true rfl⟩) dLw_main_1254 (rfl : kC[5]? = _) mA_0 rfl rfl (Nat.le_of_ble_eq_true rfl) ⟨by show _ ≤ 644430; omega, by show _ ≤ 7162781; omega⟩ (fun r5 u6 h => ?_)
  refine jr_perm (ws := lM cI cII cL cJ ad am ao K F u2.1 u2.2 u6) (ws' := lV cI cII cL cJ ad am ao K F u2.1 u2.2 u6) lM_P lM_D ?_
  refine jr_iload (q := 1) C dLw_main_1257 rfl ?_
  obtain ⟨e7, h⟩ := h
  refine jr_icmp_eq (tgt := 1264) C dLw_main_1259 (by decide) (fun _ => ?_) (fun q => absurd e7 q)
  refine jr_iload (q := 1) C dLw_main_1264 rfl ?_
  refine jr_if_ne (tgt := 1281) C dLw_main_1266 (by decide) (fun z => ?_) (fun z => ?_)
  · refine jr_goto (tgt := 1696) C dLw_main_1281 (by decide) ?_
    refine jr_lv (lv' := [(0, .ref b), (1, .ref (ad 0)), (2, .ref (am 0)), (3, .ref ao), (4, .int x4)]) [2, 3, 4, 5, 6] rfl ?_
    exact kk u2.1 u2.2 u6 h.2
  · refine jr_aload_n (q := 5) C dLw_main_1269 rfl rfl ?_
    refine jr_iconst (v := 0) C dLw_main_1270 (by decide) ?_
    refine jr_lald (t0 := 3) C dLw_main_1271 oA rfl vi_01 ?_
    refine jr_iload (q := 0) C dLw_main_1272 rfl ?_
    refine jr_i2l C dLw_main_1274 ?_
    refine jr_lcmp C dLw_main_1275 ?_
    refine jr_if_eq (tgt := 1281) C dLw_main_1276 (by decide) (fun _ => ?_) (fun q => absurd ((lg_cmp_eq _ _).mpr (h.1 z)) q)
    refine jr_goto (tgt := 1696) C dLw_main_1281 (by decide) ?_
    refine jr_lv (lv' := [(0, .ref b), (1, .ref (ad 0)), (2, .ref (am 0)), (3, .ref ao), (4, .int x4)]) [2, 3, 4, 5, 6] rfl ?_
    exact kk u2.1 u2.2 u6 h.2
def wc_18 (K F : Nat) (st : jS) (f : Nat → Int64) (sm : jS) (a1 : Int32) (a2 : Int32) (a3 : Int32) (a4 : Int32) (cont : jS → (Nat → Int64) → jS → Prop) : Prop :=
  wp_Lw_grams K F st f a1 a2 a3 (fun r1 u2 => wp_Mo_grams sm a1 a2 a3 (fun r3 u4 => wp_Mo_thrown u4 (fun r5 u6 => r5 = r1 ∧ (r1 = 0 → (u2.2 (Int32.toNatClampNeg 0)) = r3.toInt64) ∧ cont u2.1 u2.2 u6)))
set_option maxRecDepth 100000 in
set_option maxHeartbeats 4000000 in
theorem lc_18 {p : Program} {l : Launch} {e : Env} {s : State} {m : MethodId} {below : List Frame} {meth : Method} {c : Code} {D : va_G} {cI cII cL cJ : ClassId} {ad am sa : Nat → Nat} {ao K F b L cells slots : Nat} {xs : Nat → Int32} {x4 : Int32} {A : Nat → Prop} {Q : State → Prop} {st sm : jS} {f : Nat → Int64} {cont : jS → (Nat → Int64) → jS → Prop} (hl0 : l.stackTraces = false) (C : jr_C p s m #[Value.ref b] c code 8 "KindTablesLaw" lTs D kC (kT cI cII cL cJ) A) (hZ : jr_Z A s s.heap) (hs9 : ∀ q ∈ kS sa, vk_R q.1 q.2.1 q.2.2.1 q.2.2.2 s) (hnc : jNc s) (hX : va_X b L xs s s.heap) (hbl : b < s.heap.size) (hbA : ¬ A b) (h1 : vp_in (x4 + 1) L) (h2 : vp_in (x4 + 2) L) (h3 : vp_in (x4 + 3) L) (h4 : vp_in (x4 + 4) L) (hce : cells ≤ 600000) (hsl : slots ≤ 7000000) (h : wc_18 K F st f sm (xs (Int32.toNatClampNeg (x4 + 1))) (xs (Int32.toNatClampNeg (x4 + 2))) (xs (Int32.toNatClampNeg (x4 + 3))) (xs (Int32.toNatClampNeg (x4 + 4))) cont) (kk : ∀ (st : jS) (f : Nat → Int64) (sm : jS), cont st f sm → jr_J p l e room_1 s m #[Value.ref b] below meth c A D kC 8 (cells + 3) (slots + 18) Q (lV cI cII cL cJ ad am ao K F st f sm) 1696 [(0, .ref b), (1, .ref (ad 0)), (2, .ref (am 0)), (3, .ref ao), (4, .int x4)] []) : jr_J p l e room_1 s m #[Value.ref b] below meth c A D kC 8 cells slots Q (lV cI cII cL cJ ad am ao K F st f sm) 1284 [(0, .ref b), (1, .ref (ad 0)), (2, .ref (am 0)), (3, .ref ao), (4, .int x4)] [] := by
  unfold wc_18 at h
  refine jr_aload_n (q := 1) C dLw_main_1284 rfl rfl ?_
  refine jr_aload_n (q := 0) C dLw_main_1285 rfl rfl ?_
  refine jr_iload (q := 4) C dLw_main_1286 rfl ?_
  refine jr_iconst (v := 1) C dLw_main_1288 (by decide) ?_
  refine jr_iadd C dLw_main_1289 ?_
  refine jr_sld C hX hbl hbA h1 dLw_main_1290 ?_
  refine jr_aload_n (q := 0) C dLw_main_1291 rfl rfl ?_
  refine jr_iload (q := 4) C dLw_main_1292 rfl ?_
  refine jr_iconst (v := 2) C dLw_main_1294 (by decide) ?_
  refine jr_iadd C dLw_main_1295 ?_
  refine jr_sld C hX hbl hbA h2 dLw_main_1296 ?_
  refine jr_aload_n (q := 0) C dLw_main_1297 rfl rfl ?_
  refine jr_iload (q := 4) C dLw_main_1298 rfl ?_
  refine jr_iconst (v := 3) C dLw_main_1300 (by decide) ?_
  refine jr_iadd C dLw_main_1301 ?_
  refine jr_sld C hX hbl hbA h3 dLw_main_1302 ?_
  refine jr_aload_n (q := 3) C dLw_main_1303 rfl rfl ?_
  refine jr_callNi (wf := oW cI cII cL cJ ad ao K F (mW cI am [] sm)) (As := [.ref (ad 0), .int (xs (Int32.toNatClampNeg (x4 + 1))), .int (xs (Int32.toNatClampNeg (x4 + 2))), .int (xs (Int32.toNatClampNeg (x4 + 3))), .ref ao]) (rest := []) C hZ hs9 hnc (c_Lw_grams hl0 h) (vx_cwSW 5 C.2.2.2.2.1 (tg_SW tm3_36 tm3_37 tm1_0 tm3_38) rfl rfl rfl ⟨by decide, by decide, by decide⟩ ⟨Nat.le_of_ble_eq_true rfl, Nat.le_of_ble_eq_true rfl⟩) dLw_main_1304 rfl rfl (Nat.le_of_ble_eq_true rfl) ⟨by show _ ≤ 644430; omega, by show _ ≤ 7162781; omega⟩ (fun r1 u2 h => ?_)
  refine jr_istore (lv' := [(5, .int r1), (0, .ref b), (1, .ref (ad 0)), (2, .ref (am 0)), (3, .ref ao), (4, .int x4)]) C dLw_main_1307 (by decide) rfl ?_
  refine jr_aload_n (q := 3) C dLw_main_1309 rfl rfl ?_
  refine jr_aload_n (q := 1) C dLw_main_1310 rfl rfl ?_
  refine jr_iload (q := 5) C dLw_main_1311 rfl ?_
  refine jr_iconst (v := 1) C dLw_main_1313 (by decide) ?_
  refine jr_iadd C dLw_main_1314 ?_
  refine jr_sld C hX hbl hbA h1 dLw_main_1315 ?_
  refine jr_aload_n (q := 1) C dLw_main_1316 rfl rfl ?_
  refine jr_iload (q := 5) C dLw_main_1317 rfl ?_
  refine jr_iconst (v := 2) C dLw_main_1319 (by decide) ?_
  refine jr_iadd C dLw_main_1320 ?_
  refine jr_sld C hX hbl hbA h2 dLw_main_1321 ?_
  refine jr_aload_n (q := 1) C dLw_main_1322 rfl rfl ?_
  refine jr_iload (q := 5) C dLw_main_1323 rfl ?_
  refine jr_iconst (v := 3) C dLw_main_1325 (by decide) ?_
  refine jr_iadd C dLw_main_1326 ?_
  refine jr_sld C hX hbl hbA h3 dLw_main_1327 ?_
  refine jr_perm (ws' := lM cI cII cL cJ ad am ao K F u2.1 u2.2 sm) lV_P lV_D ?_
  refine jr_callVi (wf := mW cI am (kW cI cII cL ad K F [oC cJ ao u2.2] u2.1)) (As := [.int (xs (Int32.toNatClampNeg (x4 + 1))), .int (xs (Int32.toNatClampNeg (x4 + 2))), .int (xs (Int32.toNatClampNeg (x4 + 3)))]) (rest := []) C (c_Mo_grams h) (cwV 3 C.2.2.2.2.1 (tg_V tm4_66 tm4_67 tm4_68 tm1_7 tm4_69) rfl rfl rfl ⟨rfl, by decide, by decide, by decide⟩ ⟨Nat.le_of_ble_eq_true rfl, Nat.le_of_ble_eq_true rfl⟩) dLw_main_1328 (rfl : kC[5]? = _) mA_0 rfl rfl (Nat.le_of_ble_eq_true rfl) ⟨by show _ ≤ 644430; omega, by show _ ≤ 7162781; omega⟩ (fun r3 u4 h => ?_)
  refine jr_perm (ws := lM cI cII cL cJ ad am ao K F u2.1 u2.2 u4) (ws' := lV cI cII cL cJ ad am ao K F u2.1 u2.2 u4) lM_P lM_D ?_
  refine jr_istore (lv' := [(6, .int r3), (5, .int r1), (0, .ref b), (1, .ref (ad 0)), (2, .ref (am 0)), (3, .ref ao), (4, .int x4)]) C dLw_main_1331 (by decide) rfl ?_
  refine jr_aload_n (q := 4) C dLw_main_1333 rfl rfl ?_
  refine jr_perm (ws' := lM cI cII cL cJ ad am ao K F u2.1 u2.2 u4) lV_P lV_D ?_
  refine jr_callVi (wf := mW cI am (kW cI cII cL ad K F [oC cJ ao u2.2] u2.1)) (As := []) (rest := []) C (c_Mo_thrown h) (cwV 0 C.2.2.2.2.1 (tg_V tm3_181 tm3_182 tm3_183 tm1_7 tm3_184) rfl rfl rfl ⟨rfl, by decide, by decide, by decide⟩ ⟨Nat.le_of_ble_eq_true rfl, Nat.le_of_ble_eq_true rfl⟩) dLw_main_1334 (rfl : kC[5]? = _) mA_0 rfl rfl (Nat.le_of_ble_eq_true rfl) ⟨by show _ ≤ 644430; omega, by show _ ≤ 7162781; omega⟩ (fun r5 u6 h => ?_)
  refine jr_perm (ws := lM cI cII cL cJ ad am ao K F u2.1 u2.2 u6) (ws' := lV cI cII cL cJ ad am ao K F u2.1 u2.2 u6) lM_P lM_D ?_
  refine jr_iload (q := 1) C dLw_main_1337 rfl ?_
  obtain ⟨e7, h⟩ := h
  refine jr_icmp_eq (tgt := 1344) C dLw_main_1339 (by decide) (fun _ => ?_) (fun q => absurd e7 q)
  refine jr_iload (q := 1) C dLw_main_1344 rfl ?_
  refine jr_if_ne (tgt := 1361) C dLw_main_1346 (by decide) (fun z => ?_) (fun z => ?_)
  · refine jr_goto (tgt := 1696) C dLw_main_1361 (by decide) ?_
    refine jr_lv (lv' := [(0, .ref b), (1, .ref (ad 0)), (2, .ref (am 0)), (3, .ref ao), (4, .int x4)]) [2, 3, 4, 5, 6] rfl ?_
    exact kk u2.1 u2.2 u6 h.2
  · refine jr_aload_n (q := 5) C dLw_main_1349 rfl rfl ?_
    refine jr_iconst (v := 0) C dLw_main_1350 (by decide) ?_
    refine jr_lald (t0 := 3) C dLw_main_1351 oA rfl vi_01 ?_
    refine jr_iload (q := 0) C dLw_main_1352 rfl ?_
    refine jr_i2l C dLw_main_1354 ?_
    refine jr_lcmp C dLw_main_1355 ?_
    refine jr_if_eq (tgt := 1361) C dLw_main_1356 (by decide) (fun _ => ?_) (fun q => absurd ((lg_cmp_eq _ _).mpr (h.1 z)) q)
    refine jr_goto (tgt := 1696) C dLw_main_1361 (by decide) ?_
    refine jr_lv (lv' := [(0, .ref b), (1, .ref (ad 0)), (2, .ref (am 0)), (3, .ref ao), (4, .int x4)]) [2, 3, 4, 5, 6] rfl ?_
    exact kk u2.1 u2.2 u6 h.2
def wc_19 (K F : Nat) (st : jS) (f : Nat → Int64) (sm : jS) (a1 : Int32) (a2 : Int32) (a3 : Int32) (a4 : Int32) (cont : jS → (Nat → Int64) → jS → Prop) : Prop :=
  wp_Lw_share K F st f a1 a2 a3 a4 (fun r1 u2 => wp_Mo_share sm a1 a2 a3 a4 (fun r3 u4 => wp_Mo_thrown u4 (fun r5 u6 => r5 = r1 ∧ (r1 = 0 → (u2.2 (Int32.toNatClampNeg 0)) = r3) ∧ cont u2.1 u2.2 u6)))
set_option maxRecDepth 100000 in
set_option maxHeartbeats 4000000 in
theorem lc_19 {p : Program} {l : Launch} {e : Env} {s : State} {m : MethodId} {below : List Frame} {meth : Method} {c : Code} {D : va_G} {cI cII cL cJ : ClassId} {ad am sa : Nat → Nat} {ao K F b L cells slots : Nat} {xs : Nat → Int32} {x4 : Int32} {A : Nat → Prop} {Q : State → Prop} {st sm : jS} {f : Nat → Int64} {cont : jS → (Nat → Int64) → jS → Prop} (hl0 : l.stackTraces = false) (C : jr_C p s m #[Value.ref b] c code 8 "KindTablesLaw" lTs D kC (kT cI cII cL cJ) A) (hZ : jr_Z A s s.heap) (hs9 : ∀ q ∈ kS sa, vk_R q.1 q.2.1 q.2.2.1 q.2.2.2 s) (hnc : jNc s) (hX : va_X b L xs s s.heap) (hbl : b < s.heap.size) (hbA : ¬ A b) (h1 : vp_in (x4 + 1) L) (h2 : vp_in (x4 + 2) L) (h3 : vp_in (x4 + 3) L) (h4 : vp_in (x4 + 4) L) (hce : cells ≤ 600000) (hsl : slots ≤ 7000000) (h : wc_19 K F st f sm (xs (Int32.toNatClampNeg (x4 + 1))) (xs (Int32.toNatClampNeg (x4 + 2))) (xs (Int32.toNatClampNeg (x4 + 3))) (xs (Int32.toNatClampNeg (x4 + 4))) cont) (kk : ∀ (st : jS) (f : Nat → Int64) (sm : jS), cont st f sm → jr_J p l e room_1 s m #[Value.ref b] below meth c A D kC 8 (cells + 4) (slots + 24) Q (lV cI cII cL cJ ad am ao K F st f sm) 1696 [(0, .ref b), (1, .ref (ad 0)), (2, .ref (am 0)), (3, .ref ao), (4, .int x4)] []) : jr_J p l e room_1 s m #[Value.ref b] below meth c A D kC 8 cells slots Q (lV cI cII cL cJ ad am ao K F st f sm) 1364 [(0, .ref b), (1, .ref (ad 0)), (2, .ref (am 0)), (3, .ref ao), (4, .int x4)] [] := by
  unfold wc_19 at h
  refine jr_aload_n (q := 1) C dLw_main_1364 rfl rfl ?_
  refine jr_aload_n (q := 0) C dLw_main_1365 rfl rfl ?_
  refine jr_iload (q := 4) C dLw_main_1366 rfl ?_
  refine jr_iconst (v := 1) C dLw_main_1368 (by decide) ?_
  refine jr_iadd C dLw_main_1369 ?_
  refine jr_sld C hX hbl hbA h1 dLw_main_1370 ?_
  refine jr_aload_n (q := 0) C dLw_main_1371 rfl rfl ?_
  refine jr_iload (q := 4) C dLw_main_1372 rfl ?_
  refine jr_iconst (v := 2) C dLw_main_1374 (by decide) ?_
  refine jr_iadd C dLw_main_1375 ?_
  refine jr_sld C hX hbl hbA h2 dLw_main_1376 ?_
  refine jr_aload_n (q := 0) C dLw_main_1377 rfl rfl ?_
  refine jr_iload (q := 4) C dLw_main_1378 rfl ?_
  refine jr_iconst (v := 3) C dLw_main_1380 (by decide) ?_
  refine jr_iadd C dLw_main_1381 ?_
  refine jr_sld C hX hbl hbA h3 dLw_main_1382 ?_
  refine jr_aload_n (q := 0) C dLw_main_1383 rfl rfl ?_
  refine jr_iload (q := 4) C dLw_main_1384 rfl ?_
  refine jr_iconst (v := 4) C dLw_main_1386 (by decide) ?_
  refine jr_iadd C dLw_main_1387 ?_
  refine jr_sld C hX hbl hbA h4 dLw_main_1388 ?_
  refine jr_aload_n (q := 3) C dLw_main_1389 rfl rfl ?_
  refine jr_callNi (wf := oW cI cII cL cJ ad ao K F (mW cI am [] sm)) (As := [.ref (ad 0), .int (xs (Int32.toNatClampNeg (x4 + 1))), .int (xs (Int32.toNatClampNeg (x4 + 2))), .int (xs (Int32.toNatClampNeg (x4 + 3))), .int (xs (Int32.toNatClampNeg (x4 + 4))), .ref ao]) (rest := []) C hZ hs9 hnc (c_Lw_share hl0 h) (vx_cwSW 6 C.2.2.2.2.1 (tg_SW tm3_48 tm3_49 tm1_0 tm3_50) rfl rfl rfl ⟨by decide, by decide, by decide⟩ ⟨Nat.le_of_ble_eq_true rfl, Nat.le_of_ble_eq_true rfl⟩) dLw_main_1390 rfl rfl (Nat.le_of_ble_eq_true rfl) ⟨by show _ ≤ 644430; omega, by show _ ≤ 7162781; omega⟩ (fun r1 u2 h => ?_)
  refine jr_istore (lv' := [(5, .int r1), (0, .ref b), (1, .ref (ad 0)), (2, .ref (am 0)), (3, .ref ao), (4, .int x4)]) C dLw_main_1393 (by decide) rfl ?_
  refine jr_aload_n (q := 3) C dLw_main_1395 rfl rfl ?_
  refine jr_aload_n (q := 1) C dLw_main_1396 rfl rfl ?_
  refine jr_iload (q := 5) C dLw_main_1397 rfl ?_
  refine jr_iconst (v := 1) C dLw_main_1399 (by decide) ?_
  refine jr_iadd C dLw_main_1400 ?_
  refine jr_sld C hX hbl hbA h1 dLw_main_1401 ?_
  refine jr_aload_n (q := 1) C dLw_main_1402 rfl rfl ?_
  refine jr_iload (q := 5) C dLw_main_1403 rfl ?_
  refine jr_iconst (v := 2) C dLw_main_1405 (by decide) ?_
  refine jr_iadd C dLw_main_1406 ?_
  refine jr_sld C hX hbl hbA h2 dLw_main_1407 ?_
  refine jr_aload_n (q := 1) C dLw_main_1408 rfl rfl ?_
  refine jr_iload (q := 5) C dLw_main_1409 rfl ?_
  refine jr_iconst (v := 3) C dLw_main_1411 (by decide) ?_
  refine jr_iadd C dLw_main_1412 ?_
  refine jr_sld C hX hbl hbA h3 dLw_main_1413 ?_
  refine jr_aload_n (q := 1) C dLw_main_1414 rfl rfl ?_
  refine jr_iload (q := 5) C dLw_main_1415 rfl ?_
  refine jr_iconst (v := 4) C dLw_main_1417 (by decide) ?_
  refine jr_iadd C dLw_main_1418 ?_
  refine jr_sld C hX hbl hbA h4 dLw_main_1419 ?_
  refine jr_perm (ws' := lM cI cII cL cJ ad am ao K F u2.1 u2.2 sm) lV_P lV_D ?_
  refine jr_callVl (wf := mW cI am (kW cI cII cL ad K F [oC cJ ao u2.2] u2.1)) (As := [.int (xs (Int32.toNatClampNeg (x4 + 1))), .int (xs (Int32.toNatClampNeg (x4 + 2))), .int (xs (Int32.toNatClampNeg (x4 + 3))), .int (xs (Int32.toNatClampNeg (x4 + 4)))]) (rest := []) C (c_Mo_share h) (cwV 4 C.2.2.2.2.1 (tg_V tm4_70 tm4_71 tm4_72 tm1_7 tm4_73) rfl rfl rfl ⟨rfl, by decide, by decide, by decide⟩ ⟨Nat.le_of_ble_eq_true rfl, Nat.le_of_ble_eq_true rfl⟩) dLw_main_1420 (rfl : kC[5]? = _) mA_0 rfl rfl (Nat.le_of_ble_eq_true rfl) ⟨by show _ ≤ 644430; omega, by show _ ≤ 7162781; omega⟩ (fun r3 u4 h => ?_)
  refine jr_perm (ws := lM cI cII cL cJ ad am ao K F u2.1 u2.2 u4) (ws' := lV cI cII cL cJ ad am ao K F u2.1 u2.2 u4) lM_P lM_D ?_
  refine jr_lstore (lv' := [(6, .long r3), (5, .int r1), (0, .ref b), (1, .ref (ad 0)), (2, .ref (am 0)), (3, .ref ao), (4, .int x4)]) C dLw_main_1423 (by decide) rfl ?_
  refine jr_aload_n (q := 4) C dLw_main_1425 rfl rfl ?_
  refine jr_perm (ws' := lM cI cII cL cJ ad am ao K F u2.1 u2.2 u4) lV_P lV_D ?_
  refine jr_callVi (wf := mW cI am (kW cI cII cL ad K F [oC cJ ao u2.2] u2.1)) (As := []) (rest := []) C (c_Mo_thrown h) (cwV 0 C.2.2.2.2.1 (tg_V tm3_181 tm3_182 tm3_183 tm1_7 tm3_184) rfl rfl rfl ⟨rfl, by decide, by decide, by decide⟩ ⟨Nat.le_of_ble_eq_true rfl, Nat.le_of_ble_eq_true rfl⟩) dLw_main_1426 (rfl : kC[5]? = _) mA_0 rfl rfl (Nat.le_of_ble_eq_true rfl) ⟨by show _ ≤ 644430; omega, by show _ ≤ 7162781; omega⟩ (fun r5 u6 h => ?_)
  refine jr_perm (ws := lM cI cII cL cJ ad am ao K F u2.1 u2.2 u6) (ws' := lV cI cII cL cJ ad am ao K F u2.1 u2.2 u6) lM_P lM_D ?_
  refine jr_iload (q := 1) C dLw_main_1429 rfl ?_
  obtain ⟨e7, h⟩ := h
  refine jr_icmp_eq (tgt := 1436) C dLw_main_1431 (by decide) (fun _ => ?_) (fun q => absurd e7 q)
  refine jr_iload (q := 1) C dLw_main_1436 rfl ?_
  refine jr_if_ne (tgt := 1452) C dLw_main_1438 (by decide) (fun z => ?_) (fun z => ?_)
  · refine jr_goto (tgt := 1696) C dLw_main_1452 (by decide) ?_
    refine jr_lv (lv' := [(0, .ref b), (1, .ref (ad 0)), (2, .ref (am 0)), (3, .ref ao), (4, .int x4)]) [2, 3, 4, 5, 6] rfl ?_
    exact kk u2.1 u2.2 u6 h.2
  · refine jr_aload_n (q := 5) C dLw_main_1441 rfl rfl ?_
    refine jr_iconst (v := 0) C dLw_main_1442 (by decide) ?_
    refine jr_lald (t0 := 3) C dLw_main_1443 oA rfl vi_01 ?_
    refine jr_lload (q := 0) C dLw_main_1444 rfl ?_
    refine jr_lcmp C dLw_main_1446 ?_
    refine jr_if_eq (tgt := 1452) C dLw_main_1447 (by decide) (fun _ => ?_) (fun q => absurd ((lg_cmp_eq _ _).mpr (h.1 z)) q)
    refine jr_goto (tgt := 1696) C dLw_main_1452 (by decide) ?_
    refine jr_lv (lv' := [(0, .ref b), (1, .ref (ad 0)), (2, .ref (am 0)), (3, .ref ao), (4, .int x4)]) [2, 3, 4, 5, 6] rfl ?_
    exact kk u2.1 u2.2 u6 h.2
def wc_20 (K F : Nat) (st : jS) (f : Nat → Int64) (sm : jS) (a1 : Int32) (a2 : Int32) (a3 : Int32) (a4 : Int32) (cont : jS → (Nat → Int64) → jS → Prop) : Prop :=
  wp_Lw_law K F st f a1 a2 a3 (fun r1 u2 => wp_Mo_law sm a1 a2 a3 (fun r3 u4 => wp_Mo_thrown u4 (fun r5 u6 => r5 = r1 ∧ (r1 = 0 → (u2.2 (Int32.toNatClampNeg 0)) = r3.toInt64) ∧ cont u2.1 u2.2 u6)))
set_option maxRecDepth 100000 in
set_option maxHeartbeats 4000000 in
theorem lc_20 {p : Program} {l : Launch} {e : Env} {s : State} {m : MethodId} {below : List Frame} {meth : Method} {c : Code} {D : va_G} {cI cII cL cJ : ClassId} {ad am sa : Nat → Nat} {ao K F b L cells slots : Nat} {xs : Nat → Int32} {x4 : Int32} {A : Nat → Prop} {Q : State → Prop} {st sm : jS} {f : Nat → Int64} {cont : jS → (Nat → Int64) → jS → Prop} (hl0 : l.stackTraces = false) (C : jr_C p s m #[Value.ref b] c code 8 "KindTablesLaw" lTs D kC (kT cI cII cL cJ) A) (hZ : jr_Z A s s.heap) (hs9 : ∀ q ∈ kS sa, vk_R q.1 q.2.1 q.2.2.1 q.2.2.2 s) (hnc : jNc s) (hX : va_X b L xs s s.heap) (hbl : b < s.heap.size) (hbA : ¬ A b) (h1 : vp_in (x4 + 1) L) (h2 : vp_in (x4 + 2) L) (h3 : vp_in (x4 + 3) L) (h4 : vp_in (x4 + 4) L) (hce : cells ≤ 600000) (hsl : slots ≤ 7000000) (h : wc_20 K F st f sm (xs (Int32.toNatClampNeg (x4 + 1))) (xs (Int32.toNatClampNeg (x4 + 2))) (xs (Int32.toNatClampNeg (x4 + 3))) (xs (Int32.toNatClampNeg (x4 + 4))) cont) (kk : ∀ (st : jS) (f : Nat → Int64) (sm : jS), cont st f sm → jr_J p l e room_1 s m #[Value.ref b] below meth c A D kC 8 (cells + 5) (slots + 30) Q (lV cI cII cL cJ ad am ao K F st f sm) 1696 [(0, .ref b), (1, .ref (ad 0)), (2, .ref (am 0)), (3, .ref ao), (4, .int x4)] []) : jr_J p l e room_1 s m #[Value.ref b] below meth c A D kC 8 cells slots Q (lV cI cII cL cJ ad am ao K F st f sm) 1455 [(0, .ref b), (1, .ref (ad 0)), (2, .ref (am 0)), (3, .ref ao), (4, .int x4)] [] := by
  unfold wc_20 at h
  refine jr_aload_n (q := 1) C dLw_main_1455 rfl rfl ?_
  refine jr_aload_n (q := 0) C dLw_main_1456 rfl rfl ?_
  refine jr_iload (q := 4) C dLw_main_1457 rfl ?_
  refine jr_iconst (v := 1) C dLw_main_1459 (by decide) ?_
  refine jr_iadd C dLw_main_1460 ?_
  refine jr_sld C hX hbl hbA h1 dLw_main_1461 ?_
  refine jr_aload_n (q := 0) C dLw_main_1462 rfl rfl ?_
  refine jr_iload (q := 4) C dLw_main_1463 rfl ?_
  refine jr_iconst (v := 2) C dLw_main_1465 (by decide) ?_
  refine jr_iadd C dLw_main_1466 ?_
  refine jr_sld C hX hbl hbA h2 dLw_main_1467 ?_
  refine jr_aload_n (q := 0) C dLw_main_1468 rfl rfl ?_
  refine jr_iload (q := 4) C dLw_main_1469 rfl ?_
  refine jr_iconst (v := 3) C dLw_main_1471 (by decide) ?_
  refine jr_iadd C dLw_main_1472 ?_
  refine jr_sld C hX hbl hbA h3 dLw_main_1473 ?_
  refine jr_aload_n (q := 3) C dLw_main_1474 rfl rfl ?_
  refine jr_callNi (wf := oW cI cII cL cJ ad ao K F (mW cI am [] sm)) (As := [.ref (ad 0), .int (xs (Int32.toNatClampNeg (x4 + 1))), .int (xs (Int32.toNatClampNeg (x4 + 2))), .int (xs (Int32.toNatClampNeg (x4 + 3))), .ref ao]) (rest := []) C hZ hs9 hnc (c_Lw_law hl0 h) (vx_cwSW 5 C.2.2.2.2.1 (tg_SW tm3_73 tm3_74 tm1_0 tm3_75) rfl rfl rfl ⟨by decide, by decide, by decide⟩ ⟨Nat.le_of_ble_eq_true rfl, Nat.le_of_ble_eq_true rfl⟩) dLw_main_1475 rfl rfl (Nat.le_of_ble_eq_true rfl) ⟨by show _ ≤ 644430; omega, by show _ ≤ 7162781; omega⟩ (fun r1 u2 h => ?_)
  refine jr_istore (lv' := [(5, .int r1), (0, .ref b), (1, .ref (ad 0)), (2, .ref (am 0)), (3, .ref ao), (4, .int x4)]) C dLw_main_1478 (by decide) rfl ?_
  refine jr_aload_n (q := 3) C dLw_main_1480 rfl rfl ?_
  refine jr_aload_n (q := 1) C dLw_main_1481 rfl rfl ?_
  refine jr_iload (q := 5) C dLw_main_1482 rfl ?_
  refine jr_iconst (v := 1) C dLw_main_1484 (by decide) ?_
  refine jr_iadd C dLw_main_1485 ?_
  refine jr_sld C hX hbl hbA h1 dLw_main_1486 ?_
  refine jr_aload_n (q := 1) C dLw_main_1487 rfl rfl ?_
  refine jr_iload (q := 5) C dLw_main_1488 rfl ?_
  refine jr_iconst (v := 2) C dLw_main_1490 (by decide) ?_
  refine jr_iadd C dLw_main_1491 ?_
  refine jr_sld C hX hbl hbA h2 dLw_main_1492 ?_
  refine jr_aload_n (q := 1) C dLw_main_1493 rfl rfl ?_
  refine jr_iload (q := 5) C dLw_main_1494 rfl ?_
  refine jr_iconst (v := 3) C dLw_main_1496 (by decide) ?_
  refine jr_iadd C dLw_main_1497 ?_
  refine jr_sld C hX hbl hbA h3 dLw_main_1498 ?_
  refine jr_perm (ws' := lM cI cII cL cJ ad am ao K F u2.1 u2.2 sm) lV_P lV_D ?_
  refine jr_callVi (wf := mW cI am (kW cI cII cL ad K F [oC cJ ao u2.2] u2.1)) (As := [.int (xs (Int32.toNatClampNeg (x4 + 1))), .int (xs (Int32.toNatClampNeg (x4 + 2))), .int (xs (Int32.toNatClampNeg (x4 + 3)))]) (rest := []) C (c_Mo_law h) (cwV 3 C.2.2.2.2.1 (tg_V tm4_86 tm4_87 tm4_88 tm1_7 tm4_89) rfl rfl rfl ⟨rfl, by decide, by decide, by decide⟩ ⟨Nat.le_of_ble_eq_true rfl, Nat.le_of_ble_eq_true rfl⟩) dLw_main_1499 (rfl : kC[5]? = _) mA_0 rfl rfl (Nat.le_of_ble_eq_true rfl) ⟨by show _ ≤ 644430; omega, by show _ ≤ 7162781; omega⟩ (fun r3 u4 h => ?_)
  refine jr_perm (ws := lM cI cII cL cJ ad am ao K F u2.1 u2.2 u4) (ws' := lV cI cII cL cJ ad am ao K F u2.1 u2.2 u4) lM_P lM_D ?_
  refine jr_istore (lv' := [(6, .int r3), (5, .int r1), (0, .ref b), (1, .ref (ad 0)), (2, .ref (am 0)), (3, .ref ao), (4, .int x4)]) C dLw_main_1502 (by decide) rfl ?_
  refine jr_aload_n (q := 4) C dLw_main_1504 rfl rfl ?_
  refine jr_perm (ws' := lM cI cII cL cJ ad am ao K F u2.1 u2.2 u4) lV_P lV_D ?_
  refine jr_callVi (wf := mW cI am (kW cI cII cL ad K F [oC cJ ao u2.2] u2.1)) (As := []) (rest := []) C (c_Mo_thrown h) (cwV 0 C.2.2.2.2.1 (tg_V tm3_181 tm3_182 tm3_183 tm1_7 tm3_184) rfl rfl rfl ⟨rfl, by decide, by decide, by decide⟩ ⟨Nat.le_of_ble_eq_true rfl, Nat.le_of_ble_eq_true rfl⟩) dLw_main_1505 (rfl : kC[5]? = _) mA_0 rfl rfl (Nat.le_of_ble_eq_true rfl) ⟨by show _ ≤ 644430; omega, by show _ ≤ 7162781; omega⟩ (fun r5 u6 h => ?_)
  refine jr_perm (ws := lM cI cII cL cJ ad am ao K F u2.1 u2.2 u6) (ws' := lV cI cII cL cJ ad am ao K F u2.1 u2.2 u6) lM_P lM_D ?_
  refine jr_iload (q := 1) C dLw_main_1508 rfl ?_
  obtain ⟨e7, h⟩ := h
  refine jr_icmp_eq (tgt := 1515) C dLw_main_1510 (by decide) (fun _ => ?_) (fun q => absurd e7 q)
  refine jr_iload (q := 1) C dLw_main_1515 rfl ?_
  refine jr_if_ne (tgt := 1532) C dLw_main_1517 (by decide) (fun z => ?_) (fun z => ?_)
  · refine jr_goto (tgt := 1696) C dLw_main_1532 (by decide) ?_
    refine jr_lv (lv' := [(0, .ref b), (1, .ref (ad 0)), (2, .ref (am 0)), (3, .ref ao), (4, .int x4)]) [2, 3, 4, 5, 6] rfl ?_
    exact kk u2.1 u2.2 u6 h.2
  · refine jr_aload_n (q := 5) C dLw_main_1520 rfl rfl ?_
    refine jr_iconst (v := 0) C dLw_main_1521 (by decide) ?_
    refine jr_lald (t0 := 3) C dLw_main_1522 oA rfl vi_01 ?_
    refine jr_iload (q := 0) C dLw_main_1523 rfl ?_
    refine jr_i2l C dLw_main_1525 ?_
    refine jr_lcmp C dLw_main_1526 ?_
    refine jr_if_eq (tgt := 1532) C dLw_main_1527 (by decide) (fun _ => ?_) (fun q => absurd ((lg_cmp_eq _ _).mpr (h.1 z)) q)
    refine jr_goto (tgt := 1696) C dLw_main_1532 (by decide) ?_
    refine jr_lv (lv' := [(0, .ref b), (1, .ref (ad 0)), (2, .ref (am 0)), (3, .ref ao), (4, .int x4)]) [2, 3, 4, 5, 6] rfl ?_
    exact kk u2.1 u2.2 u6 h.2
def wc_21 (K F : Nat) (st : jS) (f : Nat → Int64) (sm : jS) (a1 : Int32) (a2 : Int32) (a3 : Int32) (a4 : Int32) (cont : jS → (Nat → Int64) → jS → Prop) : Prop :=
  wp_Lw_strength K F st f a1 a2 (fun r1 u2 => wp_Mo_strength sm a1 a2 (fun r3 u4 => wp_Mo_thrown u4 (fun r5 u6 => r5 = r1 ∧ (r1 = 0 → (u2.2 (Int32.toNatClampNeg 0)) = r3.toInt64) ∧ cont u2.1 u2.2 u6)))
set_option maxRecDepth 100000 in
set_option maxHeartbeats 4000000 in
theorem lc_21 {p : Program} {l : Launch} {e : Env} {s : State} {m : MethodId} {below : List Frame} {meth : Method} {c : Code} {D : va_G} {cI cII cL cJ : ClassId} {ad am sa : Nat → Nat} {ao K F b L cells slots : Nat} {xs : Nat → Int32} {x4 : Int32} {A : Nat → Prop} {Q : State → Prop} {st sm : jS} {f : Nat → Int64} {cont : jS → (Nat → Int64) → jS → Prop} (hl0 : l.stackTraces = false) (C : jr_C p s m #[Value.ref b] c code 8 "KindTablesLaw" lTs D kC (kT cI cII cL cJ) A) (hZ : jr_Z A s s.heap) (hs9 : ∀ q ∈ kS sa, vk_R q.1 q.2.1 q.2.2.1 q.2.2.2 s) (hnc : jNc s) (hX : va_X b L xs s s.heap) (hbl : b < s.heap.size) (hbA : ¬ A b) (h1 : vp_in (x4 + 1) L) (h2 : vp_in (x4 + 2) L) (h3 : vp_in (x4 + 3) L) (h4 : vp_in (x4 + 4) L) (hce : cells ≤ 600000) (hsl : slots ≤ 7000000) (h : wc_21 K F st f sm (xs (Int32.toNatClampNeg (x4 + 1))) (xs (Int32.toNatClampNeg (x4 + 2))) (xs (Int32.toNatClampNeg (x4 + 3))) (xs (Int32.toNatClampNeg (x4 + 4))) cont) (kk : ∀ (st : jS) (f : Nat → Int64) (sm : jS), cont st f sm → jr_J p l e room_1 s m #[Value.ref b] below meth c A D kC 8 (cells + 1) (slots + 6) Q (lV cI cII cL cJ ad am ao K F st f sm) 1696 [(0, .ref b), (1, .ref (ad 0)), (2, .ref (am 0)), (3, .ref ao), (4, .int x4)] []) : jr_J p l e room_1 s m #[Value.ref b] below meth c A D kC 8 cells slots Q (lV cI cII cL cJ ad am ao K F st f sm) 1535 [(0, .ref b), (1, .ref (ad 0)), (2, .ref (am 0)), (3, .ref ao), (4, .int x4)] [] := by
  unfold wc_21 at h
  refine jr_aload_n (q := 1) C dLw_main_1535 rfl rfl ?_
  refine jr_aload_n (q := 0) C dLw_main_1536 rfl rfl ?_
  refine jr_iload (q := 4) C dLw_main_1537 rfl ?_
  refine jr_iconst (v := 1) C dLw_main_1539 (by decide) ?_
  refine jr_iadd C dLw_main_1540 ?_
  refine jr_sld C hX hbl hbA h1 dLw_main_1541 ?_
  refine jr_aload_n (q := 0) C dLw_main_1542 rfl rfl ?_
  refine jr_iload (q := 4) C dLw_main_1543 rfl ?_
  refine jr_iconst (v := 2) C dLw_main_1545 (by decide) ?_
  refine jr_iadd C dLw_main_1546 ?_
  refine jr_sld C hX hbl hbA h2 dLw_main_1547 ?_
  refine jr_aload_n (q := 3) C dLw_main_1548 rfl rfl ?_
  refine jr_callNi (wf := oW cI cII cL cJ ad ao K F (mW cI am [] sm)) (As := [.ref (ad 0), .int (xs (Int32.toNatClampNeg (x4 + 1))), .int (xs (Int32.toNatClampNeg (x4 + 2))), .ref ao]) (rest := []) C hZ hs9 hnc (c_Lw_strength hl0 h) (vx_cwSW 4 C.2.2.2.2.1 (tg_SW tm3_90 tm3_91 tm1_0 tm3_92) rfl rfl rfl ⟨by decide, by decide, by decide⟩ ⟨Nat.le_of_ble_eq_true rfl, Nat.le_of_ble_eq_true rfl⟩) dLw_main_1549 rfl rfl (Nat.le_of_ble_eq_true rfl) ⟨by show _ ≤ 644430; omega, by show _ ≤ 7162781; omega⟩ (fun r1 u2 h => ?_)
  refine jr_istore (lv' := [(5, .int r1), (0, .ref b), (1, .ref (ad 0)), (2, .ref (am 0)), (3, .ref ao), (4, .int x4)]) C dLw_main_1552 (by decide) rfl ?_
  refine jr_aload_n (q := 3) C dLw_main_1554 rfl rfl ?_
  refine jr_aload_n (q := 1) C dLw_main_1555 rfl rfl ?_
  refine jr_iload (q := 5) C dLw_main_1556 rfl ?_
  refine jr_iconst (v := 1) C dLw_main_1558 (by decide) ?_
  refine jr_iadd C dLw_main_1559 ?_
  refine jr_sld C hX hbl hbA h1 dLw_main_1560 ?_
  refine jr_aload_n (q := 1) C dLw_main_1561 rfl rfl ?_
  refine jr_iload (q := 5) C dLw_main_1562 rfl ?_
  refine jr_iconst (v := 2) C dLw_main_1564 (by decide) ?_
  refine jr_iadd C dLw_main_1565 ?_
  refine jr_sld C hX hbl hbA h2 dLw_main_1566 ?_
  refine jr_perm (ws' := lM cI cII cL cJ ad am ao K F u2.1 u2.2 sm) lV_P lV_D ?_
  refine jr_callVi (wf := mW cI am (kW cI cII cL ad K F [oC cJ ao u2.2] u2.1)) (As := [.int (xs (Int32.toNatClampNeg (x4 + 1))), .int (xs (Int32.toNatClampNeg (x4 + 2)))]) (rest := []) C (c_Mo_strength h) (cwV 2 C.2.2.2.2.1 (tg_V tm4_90 tm4_91 tm4_92 tm1_7 tm4_93) rfl rfl rfl ⟨rfl, by decide, by decide, by decide⟩ ⟨Nat.le_of_ble_eq_true rfl, Nat.le_of_ble_eq_true rfl⟩) dLw_main_1567 (rfl : kC[5]? = _) mA_0 rfl rfl (Nat.le_of_ble_eq_true rfl) ⟨by show _ ≤ 644430; omega, by show _ ≤ 7162781; omega⟩ (fun r3 u4 h => ?_)
  refine jr_perm (ws := lM cI cII cL cJ ad am ao K F u2.1 u2.2 u4) (ws' := lV cI cII cL cJ ad am ao K F u2.1 u2.2 u4) lM_P lM_D ?_
  refine jr_istore (lv' := [(6, .int r3), (5, .int r1), (0, .ref b), (1, .ref (ad 0)), (2, .ref (am 0)), (3, .ref ao), (4, .int x4)]) C dLw_main_1570 (by decide) rfl ?_
  refine jr_aload_n (q := 4) C dLw_main_1572 rfl rfl ?_
  refine jr_perm (ws' := lM cI cII cL cJ ad am ao K F u2.1 u2.2 u4) lV_P lV_D ?_
  refine jr_callVi (wf := mW cI am (kW cI cII cL ad K F [oC cJ ao u2.2] u2.1)) (As := []) (rest := []) C (c_Mo_thrown h) (cwV 0 C.2.2.2.2.1 (tg_V tm3_181 tm3_182 tm3_183 tm1_7 tm3_184) rfl rfl rfl ⟨rfl, by decide, by decide, by decide⟩ ⟨Nat.le_of_ble_eq_true rfl, Nat.le_of_ble_eq_true rfl⟩) dLw_main_1573 (rfl : kC[5]? = _) mA_0 rfl rfl (Nat.le_of_ble_eq_true rfl) ⟨by show _ ≤ 644430; omega, by show _ ≤ 7162781; omega⟩ (fun r5 u6 h => ?_)
  refine jr_perm (ws := lM cI cII cL cJ ad am ao K F u2.1 u2.2 u6) (ws' := lV cI cII cL cJ ad am ao K F u2.1 u2.2 u6) lM_P lM_D ?_
  refine jr_iload (q := 1) C dLw_main_1576 rfl ?_
  obtain ⟨e7, h⟩ := h
  refine jr_icmp_eq (tgt := 1583) C dLw_main_1578 (by decide) (fun _ => ?_) (fun q => absurd e7 q)
  refine jr_iload (q := 1) C dLw_main_1583 rfl ?_
  refine jr_if_ne (tgt := 1600) C dLw_main_1585 (by decide) (fun z => ?_) (fun z => ?_)
  · refine jr_goto (tgt := 1696) C dLw_main_1600 (by decide) ?_
    refine jr_lv (lv' := [(0, .ref b), (1, .ref (ad 0)), (2, .ref (am 0)), (3, .ref ao), (4, .int x4)]) [2, 3, 4, 5, 6] rfl ?_
    exact kk u2.1 u2.2 u6 h.2
  · refine jr_aload_n (q := 5) C dLw_main_1588 rfl rfl ?_
    refine jr_iconst (v := 0) C dLw_main_1589 (by decide) ?_
    refine jr_lald (t0 := 3) C dLw_main_1590 oA rfl vi_01 ?_
    refine jr_iload (q := 0) C dLw_main_1591 rfl ?_
    refine jr_i2l C dLw_main_1593 ?_
    refine jr_lcmp C dLw_main_1594 ?_
    refine jr_if_eq (tgt := 1600) C dLw_main_1595 (by decide) (fun _ => ?_) (fun q => absurd ((lg_cmp_eq _ _).mpr (h.1 z)) q)
    refine jr_goto (tgt := 1696) C dLw_main_1600 (by decide) ?_
    refine jr_lv (lv' := [(0, .ref b), (1, .ref (ad 0)), (2, .ref (am 0)), (3, .ref ao), (4, .int x4)]) [2, 3, 4, 5, 6] rfl ?_
    exact kk u2.1 u2.2 u6 h.2
def wc_22 (K F : Nat) (st : jS) (f : Nat → Int64) (sm : jS) (a1 : Int32) (a2 : Int32) (a3 : Int32) (a4 : Int32) (cont : jS → (Nat → Int64) → jS → Prop) : Prop :=
  wp_Lw_length K F st f a1 a2 (fun r1 u2 => wp_Mo_length sm a1 a2 (fun r3 u4 => wp_Mo_thrown u4 (fun r5 u6 => r5 = r1 ∧ (r1 = 0 → (u2.2 (Int32.toNatClampNeg 0)) = r3.toInt64) ∧ cont u2.1 u2.2 u6)))
set_option maxRecDepth 100000 in
set_option maxHeartbeats 4000000 in
theorem lc_22 {p : Program} {l : Launch} {e : Env} {s : State} {m : MethodId} {below : List Frame} {meth : Method} {c : Code} {D : va_G} {cI cII cL cJ : ClassId} {ad am sa : Nat → Nat} {ao K F b L cells slots : Nat} {xs : Nat → Int32} {x4 : Int32} {A : Nat → Prop} {Q : State → Prop} {st sm : jS} {f : Nat → Int64} {cont : jS → (Nat → Int64) → jS → Prop} (hl0 : l.stackTraces = false) (C : jr_C p s m #[Value.ref b] c code 8 "KindTablesLaw" lTs D kC (kT cI cII cL cJ) A) (hZ : jr_Z A s s.heap) (hs9 : ∀ q ∈ kS sa, vk_R q.1 q.2.1 q.2.2.1 q.2.2.2 s) (hnc : jNc s) (hX : va_X b L xs s s.heap) (hbl : b < s.heap.size) (hbA : ¬ A b) (h1 : vp_in (x4 + 1) L) (h2 : vp_in (x4 + 2) L) (h3 : vp_in (x4 + 3) L) (h4 : vp_in (x4 + 4) L) (hce : cells ≤ 600000) (hsl : slots ≤ 7000000) (h : wc_22 K F st f sm (xs (Int32.toNatClampNeg (x4 + 1))) (xs (Int32.toNatClampNeg (x4 + 2))) (xs (Int32.toNatClampNeg (x4 + 3))) (xs (Int32.toNatClampNeg (x4 + 4))) cont) (kk : ∀ (st : jS) (f : Nat → Int64) (sm : jS), cont st f sm → jr_J p l e room_1 s m #[Value.ref b] below meth c A D kC 8 (cells + 1) (slots + 6) Q (lV cI cII cL cJ ad am ao K F st f sm) 1696 [(0, .ref b), (1, .ref (ad 0)), (2, .ref (am 0)), (3, .ref ao), (4, .int x4)] []) : jr_J p l e room_1 s m #[Value.ref b] below meth c A D kC 8 cells slots Q (lV cI cII cL cJ ad am ao K F st f sm) 1603 [(0, .ref b), (1, .ref (ad 0)), (2, .ref (am 0)), (3, .ref ao), (4, .int x4)] [] := by
  unfold wc_22 at h
  refine jr_aload_n (q := 1) C dLw_main_1603 rfl rfl ?_
  refine jr_aload_n (q := 0) C dLw_main_1604 rfl rfl ?_
  refine jr_iload (q := 4) C dLw_main_1605 rfl ?_
  refine jr_iconst (v := 1) C dLw_main_1607 (by decide) ?_
  refine jr_iadd C dLw_main_1608 ?_
  refine jr_sld C hX hbl hbA h1 dLw_main_1609 ?_
  refine jr_aload_n (q := 0) C dLw_main_1610 rfl rfl ?_
  refine jr_iload (q := 4) C dLw_main_1611 rfl ?_
  refine jr_iconst (v := 2) C dLw_main_1613 (by decide) ?_
  refine jr_iadd C dLw_main_1614 ?_
  refine jr_sld C hX hbl hbA h2 dLw_main_1615 ?_
  refine jr_aload_n (q := 3) C dLw_main_1616 rfl rfl ?_
  refine jr_callNi (wf := oW cI cII cL cJ ad ao K F (mW cI am [] sm)) (As := [.ref (ad 0), .int (xs (Int32.toNatClampNeg (x4 + 1))), .int (xs (Int32.toNatClampNeg (x4 + 2))), .ref ao]) (rest := []) C hZ hs9 hnc (c_Lw_length hl0 h) (vx_cwSW 4 C.2.2.2.2.1 (tg_SW tm3_108 tm3_109 tm1_0 tm3_110) rfl rfl rfl ⟨by decide, by decide, by decide⟩ ⟨Nat.le_of_ble_eq_true rfl, Nat.le_of_ble_eq_true rfl⟩) dLw_main_1617 rfl rfl (Nat.le_of_ble_eq_true rfl) ⟨by show _ ≤ 644430; omega, by show _ ≤ 7162781; omega⟩ (fun r1 u2 h => ?_)
  refine jr_istore (lv' := [(5, .int r1), (0, .ref b), (1, .ref (ad 0)), (2, .ref (am 0)), (3, .ref ao), (4, .int x4)]) C dLw_main_1620 (by decide) rfl ?_
  refine jr_aload_n (q := 3) C dLw_main_1622 rfl rfl ?_
  refine jr_aload_n (q := 1) C dLw_main_1623 rfl rfl ?_
  refine jr_iload (q := 5) C dLw_main_1624 rfl ?_
  refine jr_iconst (v := 1) C dLw_main_1626 (by decide) ?_
  refine jr_iadd C dLw_main_1627 ?_
  refine jr_sld C hX hbl hbA h1 dLw_main_1628 ?_
  refine jr_aload_n (q := 1) C dLw_main_1629 rfl rfl ?_
  refine jr_iload (q := 5) C dLw_main_1630 rfl ?_
  refine jr_iconst (v := 2) C dLw_main_1632 (by decide) ?_
  refine jr_iadd C dLw_main_1633 ?_
  refine jr_sld C hX hbl hbA h2 dLw_main_1634 ?_
  refine jr_perm (ws' := lM cI cII cL cJ ad am ao K F u2.1 u2.2 sm) lV_P lV_D ?_
  refine jr_callVi (wf := mW cI am (kW cI cII cL ad K F [oC cJ ao u2.2] u2.1)) (As := [.int (xs (Int32.toNatClampNeg (x4 + 1))), .int (xs (Int32.toNatClampNeg (x4 + 2)))]) (rest := []) C (c_Mo_length h) (cwV 2 C.2.2.2.2.1 (tg_V tm4_98 tm4_99 tm4_100 tm1_7 tm4_101) rfl rfl rfl ⟨rfl, by decide, by decide, by decide⟩ ⟨Nat.le_of_ble_eq_true rfl, Nat.le_of_ble_eq_true rfl⟩) dLw_main_1635 (rfl : kC[5]? = _) mA_0 rfl rfl (Nat.le_of_ble_eq_true rfl) ⟨by show _ ≤ 644430; omega, by show _ ≤ 7162781; omega⟩ (fun r3 u4 h => ?_)
  refine jr_perm (ws := lM cI cII cL cJ ad am ao K F u2.1 u2.2 u4) (ws' := lV cI cII cL cJ ad am ao K F u2.1 u2.2 u4) lM_P lM_D ?_
  refine jr_istore (lv' := [(6, .int r3), (5, .int r1), (0, .ref b), (1, .ref (ad 0)), (2, .ref (am 0)), (3, .ref ao), (4, .int x4)]) C dLw_main_1638 (by decide) rfl ?_
  refine jr_aload_n (q := 4) C dLw_main_1640 rfl rfl ?_
  refine jr_perm (ws' := lM cI cII cL cJ ad am ao K F u2.1 u2.2 u4) lV_P lV_D ?_
  refine jr_callVi (wf := mW cI am (kW cI cII cL ad K F [oC cJ ao u2.2] u2.1)) (As := []) (rest := []) C (c_Mo_thrown h) (cwV 0 C.2.2.2.2.1 (tg_V tm3_181 tm3_182 tm3_183 tm1_7 tm3_184) rfl rfl rfl ⟨rfl, by decide, by decide, by decide⟩ ⟨Nat.le_of_ble_eq_true rfl, Nat.le_of_ble_eq_true rfl⟩) dLw_main_1641 (rfl : kC[5]? = _) mA_0 rfl rfl (Nat.le_of_ble_eq_true rfl) ⟨by show _ ≤ 644430; omega, by show _ ≤ 7162781; omega⟩ (fun r5 u6 h => ?_)
  refine jr_perm (ws := lM cI cII cL cJ ad am ao K F u2.1 u2.2 u6) (ws' := lV cI cII cL cJ ad am ao K F u2.1 u2.2 u6) lM_P lM_D ?_
  refine jr_iload (q := 1) C dLw_main_1644 rfl ?_
  obtain ⟨e7, h⟩ := h
  refine jr_icmp_eq (tgt := 1651) C dLw_main_1646 (by decide) (fun _ => ?_) (fun q => absurd e7 q)
  refine jr_iload (q := 1) C dLw_main_1651 rfl ?_
  refine jr_if_ne (tgt := 1668) C dLw_main_1653 (by decide) (fun z => ?_) (fun z => ?_)
  · refine jr_goto (tgt := 1696) C dLw_main_1668 (by decide) ?_
    refine jr_lv (lv' := [(0, .ref b), (1, .ref (ad 0)), (2, .ref (am 0)), (3, .ref ao), (4, .int x4)]) [2, 3, 4, 5, 6] rfl ?_
    exact kk u2.1 u2.2 u6 h.2
  · refine jr_aload_n (q := 5) C dLw_main_1656 rfl rfl ?_
    refine jr_iconst (v := 0) C dLw_main_1657 (by decide) ?_
    refine jr_lald (t0 := 3) C dLw_main_1658 oA rfl vi_01 ?_
    refine jr_iload (q := 0) C dLw_main_1659 rfl ?_
    refine jr_i2l C dLw_main_1661 ?_
    refine jr_lcmp C dLw_main_1662 ?_
    refine jr_if_eq (tgt := 1668) C dLw_main_1663 (by decide) (fun _ => ?_) (fun q => absurd ((lg_cmp_eq _ _).mpr (h.1 z)) q)
    refine jr_goto (tgt := 1696) C dLw_main_1668 (by decide) ?_
    refine jr_lv (lv' := [(0, .ref b), (1, .ref (ad 0)), (2, .ref (am 0)), (3, .ref ao), (4, .int x4)]) [2, 3, 4, 5, 6] rfl ?_
    exact kk u2.1 u2.2 u6 h.2
def wc_23 (K F : Nat) (st : jS) (f : Nat → Int64) (sm : jS) (a1 : Int32) (a2 : Int32) (a3 : Int32) (a4 : Int32) (cont : jS → (Nat → Int64) → jS → Prop) : Prop :=
  wp_KT_count K F st a1 (fun r1 u2 => wp_Mo_count sm a1 (fun r3 u4 => r1 = r3 ∧ cont u2 f u4))
set_option maxRecDepth 100000 in
set_option maxHeartbeats 4000000 in
theorem lc_23 {p : Program} {l : Launch} {e : Env} {s : State} {m : MethodId} {below : List Frame} {meth : Method} {c : Code} {D : va_G} {cI cII cL cJ : ClassId} {ad am sa : Nat → Nat} {ao K F b L cells slots : Nat} {xs : Nat → Int32} {x4 : Int32} {A : Nat → Prop} {Q : State → Prop} {st sm : jS} {f : Nat → Int64} {cont : jS → (Nat → Int64) → jS → Prop} (hl0 : l.stackTraces = false) (C : jr_C p s m #[Value.ref b] c code 8 "KindTablesLaw" lTs D kC (kT cI cII cL cJ) A) (hZ : jr_Z A s s.heap) (hs9 : ∀ q ∈ kS sa, vk_R q.1 q.2.1 q.2.2.1 q.2.2.2 s) (hnc : jNc s) (hX : va_X b L xs s s.heap) (hbl : b < s.heap.size) (hbA : ¬ A b) (h1 : vp_in (x4 + 1) L) (h2 : vp_in (x4 + 2) L) (h3 : vp_in (x4 + 3) L) (h4 : vp_in (x4 + 4) L) (hce : cells ≤ 600000) (hsl : slots ≤ 7000000) (h : wc_23 K F st f sm (xs (Int32.toNatClampNeg (x4 + 1))) (xs (Int32.toNatClampNeg (x4 + 2))) (xs (Int32.toNatClampNeg (x4 + 3))) (xs (Int32.toNatClampNeg (x4 + 4))) cont) (kk : ∀ (st : jS) (f : Nat → Int64) (sm : jS), cont st f sm → jr_J p l e room_1 s m #[Value.ref b] below meth c A D kC 8 cells slots Q (lV cI cII cL cJ ad am ao K F st f sm) 1696 [(0, .ref b), (1, .ref (ad 0)), (2, .ref (am 0)), (3, .ref ao), (4, .int x4)] []) : jr_J p l e room_1 s m #[Value.ref b] below meth c A D kC 8 cells slots Q (lV cI cII cL cJ ad am ao K F st f sm) 1671 [(0, .ref b), (1, .ref (ad 0)), (2, .ref (am 0)), (3, .ref ao), (4, .int x4)] [] := by
  unfold wc_23 at h
  refine jr_aload_n (q := 1) C dLw_main_1671 rfl rfl ?_
  refine jr_aload_n (q := 0) C dLw_main_1672 rfl rfl ?_
  refine jr_iload (q := 4) C dLw_main_1673 rfl ?_
  refine jr_iconst (v := 1) C dLw_main_1675 (by decide) ?_
  refine jr_iadd C dLw_main_1676 ?_
  refine jr_sld C hX hbl hbA h1 dLw_main_1677 ?_
  refine jr_callVi (wf := kW cI cII cL ad K F (oC cJ ao f :: mW cI am [] sm)) (As := [.int (xs (Int32.toNatClampNeg (x4 + 1)))]) (rest := []) C (c_KT_count h) (cwV 1 C.2.2.2.2.1 (tg_V tm1_179 tm1_180 tm1_181 tm1_1 tm1_182) rfl rfl rfl ⟨rfl, by decide, by decide, by decide⟩ ⟨Nat.le_of_ble_eq_true rfl, Nat.le_of_ble_eq_true rfl⟩) dLw_main_1678 (rfl : kC[0]? = _) kA_0 rfl rfl (Nat.le_of_ble_eq_true rfl) ⟨by show _ ≤ 644430; omega, by show _ ≤ 7162781; omega⟩ (fun r1 u2 h => ?_)
  refine jr_aload_n (q := 2) C dLw_main_1681 rfl rfl ?_
  refine jr_aload_n (q := 0) C dLw_main_1682 rfl rfl ?_
  refine jr_iload (q := 4) C dLw_main_1683 rfl ?_
  refine jr_iconst (v := 1) C dLw_main_1685 (by decide) ?_
  refine jr_iadd C dLw_main_1686 ?_
  refine jr_sld C hX hbl hbA h1 dLw_main_1687 ?_
  refine jr_perm (ws' := lM cI cII cL cJ ad am ao K F u2 f sm) lV_P lV_D ?_
  refine jr_callVi (wf := mW cI am (kW cI cII cL ad K F [oC cJ ao f] u2)) (As := [.int (xs (Int32.toNatClampNeg (x4 + 1)))]) (rest := [.int r1]) C (c_Mo_count h) (cwV 1 C.2.2.2.2.1 (tg_V tm4_102 tm4_103 tm4_104 tm1_7 tm4_105) rfl rfl rfl ⟨rfl, by decide, by decide, by decide⟩ ⟨Nat.le_of_ble_eq_true rfl, Nat.le_of_ble_eq_true rfl⟩) dLw_main_1688 (rfl : kC[5]? = _) mA_0 rfl rfl (Nat.le_of_ble_eq_true rfl) ⟨by show _ ≤ 644430; omega, by show _ ≤ 7162781; omega⟩ (fun r3 u4 h => ?_)
  refine jr_perm (ws := lM cI cII cL cJ ad am ao K F u2 f u4) (ws' := lV cI cII cL cJ ad am ao K F u2 f u4) lM_P lM_D ?_
  obtain ⟨e5, h⟩ := h
  refine jr_icmp_eq (tgt := 1696) C dLw_main_1691 (by decide) (fun _ => ?_) (fun q => absurd e5 q)
  exact kk u2 f u4 h
