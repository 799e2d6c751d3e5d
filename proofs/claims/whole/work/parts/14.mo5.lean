section MO
variable {l : Launch} {D : va_G} {cI cII cL cJ : ClassId} {ad : Nat → Nat} {fr : va_W}
def wp_Mo_isNear (st : jS) (l1 : Int32) (l2 : Int32) (post : Int32 → jS → Prop) : Prop :=
  ((l1 = l2 → post (0 : Int32) st) ∧ (¬ l1 = l2 → vp_in l1 24 ∧ (((st 2 (Int32.toNatClampNeg l1)) = (-1 : Int32) → post (0 : Int32) st) ∧ (¬ (st 2 (Int32.toNatClampNeg l1)) = (-1 : Int32) → post (1 : Int32) st))))
set_option maxRecDepth 100000 in
set_option maxHeartbeats 4000000 in
theorem c_Mo_isNear {st : jS} {l1 : Int32} {l2 : Int32} {post : Int32 → jS → Prop} (h : wp_Mo_isNear st l1 l2 post) : jr_Mi l yMo_isNear wMo_isNear ({ frames := 0, cells := 0, slots := 0, locals := 0 }) [.ref (ad 0), .int l1, .int l2] D kC (kT cI cII cL cJ) (mW cI ad fr st) (mW cI ad fr) post := by
  refine jr_ofz (cc := bMo_isNear) (nL := 3) (lv := [(0, .ref (ad 0)), (1, .int l1), (2, .int l2)]) (by decide) rfl (Nat.le_of_ble_eq_true rfl) rfl (fun p e s m args below meth c A C hr hlocks => ?_)
  unfold wp_Mo_isNear at h
  refine jr_iload_n (q := 1) C dMo_isNear_0 rfl rfl ?_
  refine jr_iload_n (q := 2) C dMo_isNear_1 rfl rfl ?_
  refine jr_icmp_eq (tgt := 19) C dMo_isNear_2 (by decide) (fun z => ?_) (fun z => ?_)
  · have h := h.1 z
    refine jr_iconst (v := 0) C dMo_isNear_19 (by decide) ?_
    exact jr_retz C hr rfl hlocks dMo_isNear_20 h rfl
  · have h := h.2 z
    refine jr_aload_n (q := 0) C dMo_isNear_5 rfl rfl ?_
    refine jr_getf (k := 5) C dMo_isNear_6 inw_Mo (rfl : kC[5]? = _) (by decide) (List.mem_cons_of_mem _ tm3_134) rfl mA_0 rfl ?_
    refine jr_iload_n (q := 1) C dMo_isNear_9 rfl rfl ?_
    obtain ⟨h1, h⟩ := h
    refine jr_iald (t0 := 0) C dMo_isNear_10 mA_2 rfl h1 ?_
    refine jr_iconst (v := -1) C dMo_isNear_11 (by decide) ?_
    refine jr_icmp_eq (tgt := 19) C dMo_isNear_12 (by decide) (fun z => ?_) (fun z => ?_)
    · have h := h.1 z
      refine jr_iconst (v := 0) C dMo_isNear_19 (by decide) ?_
      exact jr_retz C hr rfl hlocks dMo_isNear_20 h rfl
    · have h := h.2 z
      refine jr_iconst (v := 1) C dMo_isNear_15 (by decide) ?_
      refine jr_goto (tgt := 20) C dMo_isNear_16 (by decide) ?_
      exact jr_retz C hr rfl hlocks dMo_isNear_20 h rfl
def wp_Mo_nearest_48 (post : Int32 → jS → Prop) (kont : jS → Int32 → Int32 → Int32 → Int32 → Int32 → Prop) : Nat → jS → Int32 → Int32 → Int32 → Int32 → Int32 → Prop
  | 0 => fun _ _ _ _ _ _ => False
  | n + 1 => fun st x1 x2 x3 x4 x5 => (((st 0 4) ≤ x5 → kont st x1 x2 x3 x4 x5) ∧ (¬ (st 0 4) ≤ x5 → wp_Mo_apart st x5 x1 (fun r6 st5 => wp_Mo_apart st5 x3 x1 (fun r8 st7 => (∃ j9 : jS → Int32 → Prop, (∀ (st14 : jS) (v15 : Int32), j9 st14 v15 → ((v15 = 0 → wp_Mo_nearest_48 post kont n st14 x1 x2 x3 x4 (x5 + (1 : Int32))) ∧ (¬ v15 = 0 → wp_Mo_isNear st14 x5 x1 (fun r17 st16 => ((r17 = 0 → wp_Mo_nearest_48 post kont n st16 x1 x2 x3 x4 (x5 + (1 : Int32))) ∧ (¬ r17 = 0 → wp_Mo_nearest_48 post kont n st16 x1 x2 x3 (x4 + (1 : Int32)) (x5 + (1 : Int32)))))))) ∧ ((r6 < r8 → j9 st7 (1 : Int32)) ∧ (¬ r6 < r8 → wp_Mo_apart st7 x5 x1 (fun r11 st10 => wp_Mo_apart st10 x3 x1 (fun r13 st12 => ((¬ r11 = r13 → j9 st12 (0 : Int32)) ∧ (r11 = r13 → ((x3 ≤ x5 → j9 st12 (0 : Int32)) ∧ (¬ x3 ≤ x5 → j9 st12 (1 : Int32))))))))))))))
def wp_Mo_nearest_27 (post : Int32 → jS → Prop) (kont : jS → Int32 → Int32 → Int32 → Prop) : Nat → jS → Int32 → Int32 → Int32 → Prop
  | 0 => fun _ _ _ _ => False
  | n + 1 => fun st x1 x2 x3 => (((st 0 4) ≤ x3 → kont st x1 x2 x3) ∧ (¬ (st 0 4) ≤ x3 → ((¬ (st 0 0) = 0 → kont st x1 x2 x3) ∧ ((st 0 0) = 0 → (∃ n28, wp_Mo_nearest_48 post (fun st20 y21 y22 y23 y24 y25 => wp_Mo_isNear st20 y23 y21 (fun r27 st26 => ((r27 = 0 → wp_Mo_nearest_27 post kont n st26 y21 y22 (y23 + (1 : Int32))) ∧ (¬ r27 = 0 → ((¬ y24 = y22 → wp_Mo_nearest_27 post kont n st26 y21 y22 (y23 + (1 : Int32))) ∧ (y24 = y22 → post y23 st26)))))) n28 st x1 x2 x3 (0 : Int32) (0 : Int32))))))
def wp_Mo_nearest (st : jS) (l1 : Int32) (l2 : Int32) (post : Int32 → jS → Prop) : Prop :=
  wp_Mo_isExample st l1 (fun r2 st1 => (∃ j3 : Int32 → Prop, (∀ (v4 : Int32), j3 v4 → (∃ n35, wp_Mo_nearest_27 post (fun st31 y32 y33 y34 => (((st31 0 0) ≤ 0 → post (-1 : Int32) st31) ∧ (¬ (st31 0 0) ≤ 0 → post (0 : Int32) st31))) n35 (jq st1 0 0 v4) l1 l2 (0 : Int32))) ∧ ((¬ r2 = 0 → ((0 ≤ l2 → j3 (0 : Int32)) ∧ (¬ 0 ≤ l2 → j3 (2 : Int32)))) ∧ (r2 = 0 → j3 (1 : Int32)))))
set_option maxRecDepth 100000 in
set_option maxHeartbeats 4000000 in
theorem c_Mo_nearest {st : jS} {l1 : Int32} {l2 : Int32} {post : Int32 → jS → Prop} (h : wp_Mo_nearest st l1 l2 post) : jr_Mi l yMo_nearest wMo_nearest ({ frames := 2, cells := 0, slots := 0, locals := 43 }) [.ref (ad 0), .int l1, .int l2] D kC (kT cI cII cL cJ) (mW cI ad fr st) (mW cI ad fr) post := by
  refine jr_ofi (cc := bMo_nearest) (nL := 7) (lv := [(0, .ref (ad 0)), (1, .int l1), (2, .int l2)]) (by decide) rfl (Nat.le_of_ble_eq_true rfl) rfl (fun p e s m args below meth c A C hr hlocks => ?_)
  unfold wp_Mo_nearest at h
  refine jr_aload_n (q := 0) C dMo_nearest_0 rfl rfl ?_
  refine jr_aload_n (q := 0) C dMo_nearest_1 rfl rfl ?_
  refine jr_iload_n (q := 1) C dMo_nearest_2 rfl rfl ?_
  refine jr_callVi (As := [.int l1]) (rest := [.ref (ad 0)]) C (c_Mo_isExample h) (cwV 1 C.2.2.2.2.1 (tg_V tm3_200 tm3_202 tp_19 tm1_7 tm3_203) rfl rfl rfl ⟨rfl, by decide, by decide, by decide⟩ ⟨Nat.le_of_ble_eq_true rfl, Nat.le_of_ble_eq_true rfl⟩) dMo_nearest_3 (rfl : kC[5]? = _) mA_0 rfl rfl (Nat.le_of_ble_eq_true rfl) ⟨Nat.le_of_ble_eq_true rfl, Nat.le_of_ble_eq_true rfl⟩ (fun r2 st1 h => ?_)
  obtain ⟨j3, j3r, h⟩ := h
  have hj3 : ∀ (v4 : Int32), j3 v4 → jr_J p l e (headSpec wMo_nearest ({ frames := 2, cells := 0, slots := 0, locals := 43 })).room s m args below meth c A D kC 7 0 0 (MQ below (va_Qi post (jr_B D kC (kT cI cII cL cJ) (mW cI ad fr) A) A) args s 0 0 A) (mW cI ad fr st1) 22 [(0, .ref (ad 0)), (1, .int l1), (2, .int l2)] [.int v4, .ref (ad 0)] := by
    intro v4 h
    have h := j3r v4 h
    refine jr_putf (k := 0) C dMo_nearest_22 inw_Mo ty_Mo ty_Mo_ok nm_Mo (rfl : kC[5]? = _) (by decide) (List.mem_cons_of_mem _ tm3_129) rfl rfl (ty := .int) rfl rfl rfl mA_0 (Nat.le_of_ble_eq_true rfl) ?_
    refine jr_ws (ws' := mW cI ad fr (jq st1 0 0 v4)) (mP_0_0) ?_
    refine jr_iconst (v := 0) C dMo_nearest_25 (by decide) ?_
    refine jr_istore_n (lv' := [(3, .int (0 : Int32)), (0, .ref (ad 0)), (1, .int l1), (2, .int l2)]) C dMo_nearest_26 rfl (by decide) rfl ?_
    have lp29 : ∀ (kont : jS → Int32 → Int32 → Int32 → Prop) (hk : ∀ (st : jS) (x1 : Int32) (x2 : Int32) (x3 : Int32), kont st x1 x2 x3 → jr_J p l e (headSpec wMo_nearest ({ frames := 2, cells := 0, slots := 0, locals := 43 })).room s m args below meth c A D kC 7 0 0 (MQ below (va_Qi post (jr_B D kC (kT cI cII cL cJ) (mW cI ad fr) A) A) args s 0 0 A) (mW cI ad fr st) 157 [(0, .ref (ad 0)), (1, .int x1), (2, .int x2), (3, .int x3)] []) (n : Nat) (st : jS) (x1 : Int32) (x2 : Int32) (x3 : Int32), wp_Mo_nearest_27 post kont n st x1 x2 x3 → jr_J p l e (headSpec wMo_nearest ({ frames := 2, cells := 0, slots := 0, locals := 43 })).room s m args below meth c A D kC 7 0 0 (MQ below (va_Qi post (jr_B D kC (kT cI cII cL cJ) (mW cI ad fr) A) A) args s 0 0 A) (mW cI ad fr st) 27 [(0, .ref (ad 0)), (1, .int x1), (2, .int x2), (3, .int x3)] [] := by
      intro kont hk n
      induction n with
      | zero => intro st x1 x2 x3 h; exact h.elim
      | succ n ih =>
        intro st x1 x2 x3 h
        unfold wp_Mo_nearest_27 at h
        refine jr_iload_n (q := 3) C dMo_nearest_27 rfl rfl ?_
        refine jr_aload_n (q := 0) C dMo_nearest_28 rfl rfl ?_
        refine jr_getf (k := 4) C dMo_nearest_29 inw_Mo (rfl : kC[5]? = _) (by decide) (List.mem_cons_of_mem _ tm3_133) rfl mA_0 rfl ?_
        refine jr_icmp_ge (tgt := 157) C dMo_nearest_32 (by decide) (fun z => ?_) (fun z => ?_)
        · have h := h.1 z
          refine jr_lv (lv' := [(0, .ref (ad 0)), (1, .int x1), (2, .int x2), (3, .int x3)]) [0, 1, 2, 3] rfl ?_
          exact hk st x1 x2 x3 h
        · have h := h.2 z
          refine jr_aload_n (q := 0) C dMo_nearest_35 rfl rfl ?_
          refine jr_getf (k := 0) C dMo_nearest_36 inw_Mo (rfl : kC[5]? = _) (by decide) (List.mem_cons_of_mem _ tm3_129) rfl mA_0 rfl ?_
          refine jr_if_ne (tgt := 157) C dMo_nearest_39 (by decide) (fun z => ?_) (fun z => ?_)
          · have h := h.1 z
            refine jr_lv (lv' := [(0, .ref (ad 0)), (1, .int x1), (2, .int x2), (3, .int x3)]) [0, 1, 2, 3] rfl ?_
            exact hk st x1 x2 x3 h
          · have h := h.2 z
            refine jr_iconst (v := 0) C dMo_nearest_42 (by decide) ?_
            refine jr_istore (lv' := [(4, .int (0 : Int32)), (0, .ref (ad 0)), (1, .int x1), (2, .int x2), (3, .int x3)]) C dMo_nearest_43 (by decide) rfl ?_
            refine jr_iconst (v := 0) C dMo_nearest_45 (by decide) ?_
            refine jr_istore (lv' := [(5, .int (0 : Int32)), (4, .int (0 : Int32)), (0, .ref (ad 0)), (1, .int x1), (2, .int x2), (3, .int x3)]) C dMo_nearest_46 (by decide) rfl ?_
            have lp18 : ∀ (kont : jS → Int32 → Int32 → Int32 → Int32 → Int32 → Prop) (hk : ∀ (st : jS) (x1 : Int32) (x2 : Int32) (x3 : Int32) (x4 : Int32) (x5 : Int32), kont st x1 x2 x3 x4 x5 → jr_J p l e (headSpec wMo_nearest ({ frames := 2, cells := 0, slots := 0, locals := 43 })).room s m args below meth c A D kC 7 0 0 (MQ below (va_Qi post (jr_B D kC (kT cI cII cL cJ) (mW cI ad fr) A) A) args s 0 0 A) (mW cI ad fr st) 134 [(0, .ref (ad 0)), (1, .int x1), (2, .int x2), (3, .int x3), (4, .int x4), (5, .int x5)] []) (n : Nat) (st : jS) (x1 : Int32) (x2 : Int32) (x3 : Int32) (x4 : Int32) (x5 : Int32), wp_Mo_nearest_48 post kont n st x1 x2 x3 x4 x5 → jr_J p l e (headSpec wMo_nearest ({ frames := 2, cells := 0, slots := 0, locals := 43 })).room s m args below meth c A D kC 7 0 0 (MQ below (va_Qi post (jr_B D kC (kT cI cII cL cJ) (mW cI ad fr) A) A) args s 0 0 A) (mW cI ad fr st) 48 [(0, .ref (ad 0)), (1, .int x1), (2, .int x2), (3, .int x3), (4, .int x4), (5, .int x5)] [] := by
              intro kont hk n
              induction n with
              | zero => intro st x1 x2 x3 x4 x5 h; exact h.elim
              | succ n ih =>
                intro st x1 x2 x3 x4 x5 h
                unfold wp_Mo_nearest_48 at h
                refine jr_iload (q := 5) C dMo_nearest_48 rfl ?_
                refine jr_aload_n (q := 0) C dMo_nearest_50 rfl rfl ?_
                refine jr_getf (k := 4) C dMo_nearest_51 inw_Mo (rfl : kC[5]? = _) (by decide) (List.mem_cons_of_mem _ tm3_133) rfl mA_0 rfl ?_
                refine jr_icmp_ge (tgt := 134) C dMo_nearest_54 (by decide) (fun z => ?_) (fun z => ?_)
                · have h := h.1 z
                  refine jr_lv (lv' := [(0, .ref (ad 0)), (1, .int x1), (2, .int x2), (3, .int x3), (4, .int x4), (5, .int x5)]) [0, 1, 2, 3, 4, 5] rfl ?_
                  exact hk st x1 x2 x3 x4 x5 h
                · have h := h.2 z
                  refine jr_aload_n (q := 0) C dMo_nearest_57 rfl rfl ?_
                  refine jr_iload (q := 5) C dMo_nearest_58 rfl ?_
                  refine jr_iload_n (q := 1) C dMo_nearest_60 rfl rfl ?_
                  refine jr_callVi (As := [.int x5, .int x1]) (rest := []) C (c_Mo_apart h) (cwV 2 C.2.2.2.2.1 (tg_V tm4_50 tm4_52 tp_26 tm1_7 tm4_53) rfl rfl rfl ⟨rfl, by decide, by decide, by decide⟩ ⟨Nat.le_of_ble_eq_true rfl, Nat.le_of_ble_eq_true rfl⟩) dMo_nearest_61 (rfl : kC[5]? = _) mA_0 rfl rfl (Nat.le_of_ble_eq_true rfl) ⟨Nat.le_of_ble_eq_true rfl, Nat.le_of_ble_eq_true rfl⟩ (fun r6 st5 h => ?_)
                  refine jr_aload_n (q := 0) C dMo_nearest_64 rfl rfl ?_
                  refine jr_iload_n (q := 3) C dMo_nearest_65 rfl rfl ?_
                  refine jr_iload_n (q := 1) C dMo_nearest_66 rfl rfl ?_
                  refine jr_callVi (As := [.int x3, .int x1]) (rest := [.int r6]) C (c_Mo_apart h) (cwV 2 C.2.2.2.2.1 (tg_V tm4_50 tm4_52 tp_26 tm1_7 tm4_53) rfl rfl rfl ⟨rfl, by decide, by decide, by decide⟩ ⟨Nat.le_of_ble_eq_true rfl, Nat.le_of_ble_eq_true rfl⟩) dMo_nearest_67 (rfl : kC[5]? = _) mA_0 rfl rfl (Nat.le_of_ble_eq_true rfl) ⟨Nat.le_of_ble_eq_true rfl, Nat.le_of_ble_eq_true rfl⟩ (fun r8 st7 h => ?_)
                  obtain ⟨j9, j9r, h⟩ := h
                  have hj9 : ∀ (st14 : jS) (v15 : Int32), j9 st14 v15 → jr_J p l e (headSpec wMo_nearest ({ frames := 2, cells := 0, slots := 0, locals := 43 })).room s m args below meth c A D kC 7 0 0 (MQ below (va_Qi post (jr_B D kC (kT cI cII cL cJ) (mW cI ad fr) A) A) args s 0 0 A) (mW cI ad fr st14) 100 [(0, .ref (ad 0)), (1, .int x1), (2, .int x2), (3, .int x3), (4, .int x4), (5, .int x5)] [.int v15] := by
                    intro st14 v15 h
                    have h := j9r st14 v15 h
                    refine jr_istore (lv' := [(6, .int v15), (0, .ref (ad 0)), (1, .int x1), (2, .int x2), (3, .int x3), (4, .int x4), (5, .int x5)]) C dMo_nearest_100 (by decide) rfl ?_
                    refine jr_iload (q := 0) C dMo_nearest_102 rfl ?_
                    refine jr_if_eq (tgt := 124) C dMo_nearest_104 (by decide) (fun z => ?_) (fun z => ?_)
                    · have h := h.1 z
                      refine jr_iload (q := 5) C dMo_nearest_124 rfl ?_
                      refine jr_istore (lv' := [(4, .int x4), (6, .int v15), (0, .ref (ad 0)), (1, .int x1), (2, .int x2), (3, .int x3), (5, .int x5)]) C dMo_nearest_126 (by decide) rfl ?_
                      refine jr_iinc (q := 6) (v := (x5 + (1 : Int32))) (lv' := [(5, .int (x5 + (1 : Int32))), (4, .int x4), (6, .int v15), (0, .ref (ad 0)), (1, .int x1), (2, .int x2), (3, .int x3)]) C dMo_nearest_128 rfl rfl (by decide) rfl ?_
                      refine jr_goto (tgt := 48) C dMo_nearest_131 (by decide) ?_
                      refine jr_lv (lv' := [(0, .ref (ad 0)), (1, .int x1), (2, .int x2), (3, .int x3), (4, .int x4), (5, .int (x5 + (1 : Int32)))]) [3, 4, 5, 6, 1, 0] rfl ?_
                      exact ih st14 x1 x2 x3 x4 (x5 + (1 : Int32)) h
                    · have h := h.2 z
                      refine jr_aload_n (q := 1) C dMo_nearest_107 rfl rfl ?_
                      refine jr_iload (q := 6) C dMo_nearest_108 rfl ?_
                      refine jr_iload_n (q := 2) C dMo_nearest_110 rfl rfl ?_
                      refine jr_callVi (As := [.int x5, .int x1]) (rest := []) C (c_Mo_isNear h) (cwV 2 C.2.2.2.2.1 (tg_V tm4_54 tm4_56 tp_27 tm1_7 tm4_57) rfl rfl rfl ⟨rfl, by decide, by decide, by decide⟩ ⟨Nat.le_of_ble_eq_true rfl, Nat.le_of_ble_eq_true rfl⟩) dMo_nearest_111 (rfl : kC[5]? = _) mA_0 rfl rfl (Nat.le_of_ble_eq_true rfl) ⟨Nat.le_of_ble_eq_true rfl, Nat.le_of_ble_eq_true rfl⟩ (fun r17 st16 h => ?_)
                      refine jr_if_eq (tgt := 124) C dMo_nearest_114 (by decide) (fun z => ?_) (fun z => ?_)
                      · have h := h.1 z
                        refine jr_iload (q := 5) C dMo_nearest_124 rfl ?_
                        refine jr_istore (lv' := [(4, .int x4), (6, .int v15), (0, .ref (ad 0)), (1, .int x1), (2, .int x2), (3, .int x3), (5, .int x5)]) C dMo_nearest_126 (by decide) rfl ?_
                        refine jr_iinc (q := 6) (v := (x5 + (1 : Int32))) (lv' := [(5, .int (x5 + (1 : Int32))), (4, .int x4), (6, .int v15), (0, .ref (ad 0)), (1, .int x1), (2, .int x2), (3, .int x3)]) C dMo_nearest_128 rfl rfl (by decide) rfl ?_
                        refine jr_goto (tgt := 48) C dMo_nearest_131 (by decide) ?_
                        refine jr_lv (lv' := [(0, .ref (ad 0)), (1, .int x1), (2, .int x2), (3, .int x3), (4, .int x4), (5, .int (x5 + (1 : Int32)))]) [3, 4, 5, 6, 1, 0] rfl ?_
                        exact ih st16 x1 x2 x3 x4 (x5 + (1 : Int32)) h
                      · have h := h.2 z
                        refine jr_iload (q := 5) C dMo_nearest_117 rfl ?_
                        refine jr_iconst (v := 1) C dMo_nearest_119 (by decide) ?_
                        refine jr_iadd C dMo_nearest_120 ?_
                        refine jr_goto (tgt := 126) C dMo_nearest_121 (by decide) ?_
                        refine jr_istore (lv' := [(4, .int (x4 + (1 : Int32))), (6, .int v15), (0, .ref (ad 0)), (1, .int x1), (2, .int x2), (3, .int x3), (5, .int x5)]) C dMo_nearest_126 (by decide) rfl ?_
                        refine jr_iinc (q := 6) (v := (x5 + (1 : Int32))) (lv' := [(5, .int (x5 + (1 : Int32))), (4, .int (x4 + (1 : Int32))), (6, .int v15), (0, .ref (ad 0)), (1, .int x1), (2, .int x2), (3, .int x3)]) C dMo_nearest_128 rfl rfl (by decide) rfl ?_
                        refine jr_goto (tgt := 48) C dMo_nearest_131 (by decide) ?_
                        refine jr_lv (lv' := [(0, .ref (ad 0)), (1, .int x1), (2, .int x2), (3, .int x3), (4, .int (x4 + (1 : Int32))), (5, .int (x5 + (1 : Int32)))]) [3, 4, 5, 6, 1, 0] rfl ?_
                        exact ih st16 x1 x2 x3 (x4 + (1 : Int32)) (x5 + (1 : Int32)) h
                  refine jr_icmp_lt (tgt := 95) C dMo_nearest_70 (by decide) (fun z => ?_) (fun z => ?_)
                  · have h := h.1 z
                    refine jr_iconst (v := 1) C dMo_nearest_95 (by decide) ?_
                    refine jr_goto (tgt := 100) C dMo_nearest_96 (by decide) ?_
                    refine jr_lv (lv' := [(0, .ref (ad 0)), (1, .int x1), (2, .int x2), (3, .int x3), (4, .int x4), (5, .int x5)]) [0, 1, 2, 3, 4, 5] rfl ?_
                    exact hj9 st7 (1 : Int32) h
                  · have h := h.2 z
                    refine jr_aload_n (q := 0) C dMo_nearest_73 rfl rfl ?_
                    refine jr_iload (q := 5) C dMo_nearest_74 rfl ?_
                    refine jr_iload_n (q := 1) C dMo_nearest_76 rfl rfl ?_
                    refine jr_callVi (As := [.int x5, .int x1]) (rest := []) C (c_Mo_apart h) (cwV 2 C.2.2.2.2.1 (tg_V tm4_50 tm4_52 tp_26 tm1_7 tm4_53) rfl rfl rfl ⟨rfl, by decide, by decide, by decide⟩ ⟨Nat.le_of_ble_eq_true rfl, Nat.le_of_ble_eq_true rfl⟩) dMo_nearest_77 (rfl : kC[5]? = _) mA_0 rfl rfl (Nat.le_of_ble_eq_true rfl) ⟨Nat.le_of_ble_eq_true rfl, Nat.le_of_ble_eq_true rfl⟩ (fun r11 st10 h => ?_)
                    refine jr_aload_n (q := 0) C dMo_nearest_80 rfl rfl ?_
                    refine jr_iload_n (q := 3) C dMo_nearest_81 rfl rfl ?_
                    refine jr_iload_n (q := 1) C dMo_nearest_82 rfl rfl ?_
                    refine jr_callVi (As := [.int x3, .int x1]) (rest := [.int r11]) C (c_Mo_apart h) (cwV 2 C.2.2.2.2.1 (tg_V tm4_50 tm4_52 tp_26 tm1_7 tm4_53) rfl rfl rfl ⟨rfl, by decide, by decide, by decide⟩ ⟨Nat.le_of_ble_eq_true rfl, Nat.le_of_ble_eq_true rfl⟩) dMo_nearest_83 (rfl : kC[5]? = _) mA_0 rfl rfl (Nat.le_of_ble_eq_true rfl) ⟨Nat.le_of_ble_eq_true rfl, Nat.le_of_ble_eq_true rfl⟩ (fun r13 st12 h => ?_)
                    refine jr_icmp_ne (tgt := 99) C dMo_nearest_86 (by decide) (fun z => ?_) (fun z => ?_)
                    · have h := h.1 z
                      refine jr_iconst (v := 0) C dMo_nearest_99 (by decide) ?_
                      refine jr_lv (lv' := [(0, .ref (ad 0)), (1, .int x1), (2, .int x2), (3, .int x3), (4, .int x4), (5, .int x5)]) [0, 1, 2, 3, 4, 5] rfl ?_
                      exact hj9 st12 (0 : Int32) h
                    · have h := h.2 z
                      refine jr_iload (q := 5) C dMo_nearest_89 rfl ?_
                      refine jr_iload_n (q := 3) C dMo_nearest_91 rfl rfl ?_
                      refine jr_icmp_ge (tgt := 99) C dMo_nearest_92 (by decide) (fun z => ?_) (fun z => ?_)
                      · have h := h.1 z
                        refine jr_iconst (v := 0) C dMo_nearest_99 (by decide) ?_
                        refine jr_lv (lv' := [(0, .ref (ad 0)), (1, .int x1), (2, .int x2), (3, .int x3), (4, .int x4), (5, .int x5)]) [0, 1, 2, 3, 4, 5] rfl ?_
                        exact hj9 st12 (0 : Int32) h
                      · have h := h.2 z
                        refine jr_iconst (v := 1) C dMo_nearest_95 (by decide) ?_
                        refine jr_goto (tgt := 100) C dMo_nearest_96 (by decide) ?_
                        refine jr_lv (lv' := [(0, .ref (ad 0)), (1, .int x1), (2, .int x2), (3, .int x3), (4, .int x4), (5, .int x5)]) [0, 1, 2, 3, 4, 5] rfl ?_
                        exact hj9 st12 (1 : Int32) h
            obtain ⟨n19, h⟩ := h
            refine jr_lv (lv' := [(0, .ref (ad 0)), (1, .int x1), (2, .int x2), (3, .int x3), (4, .int (0 : Int32)), (5, .int (0 : Int32))]) [2, 3, 4, 5, 1, 0] rfl ?_
            refine lp18 _ (fun st20 y21 y22 y23 y24 y25 h => ?_) n19 st x1 x2 x3 (0 : Int32) (0 : Int32) h
            refine jr_aload_n (q := 0) C dMo_nearest_134 rfl rfl ?_
            refine jr_iload_n (q := 3) C dMo_nearest_135 rfl rfl ?_
            refine jr_iload_n (q := 1) C dMo_nearest_136 rfl rfl ?_
            refine jr_callVi (As := [.int y23, .int y21]) (rest := []) C (c_Mo_isNear h) (cwV 2 C.2.2.2.2.1 (tg_V tm4_54 tm4_56 tp_27 tm1_7 tm4_57) rfl rfl rfl ⟨rfl, by decide, by decide, by decide⟩ ⟨Nat.le_of_ble_eq_true rfl, Nat.le_of_ble_eq_true rfl⟩) dMo_nearest_137 (rfl : kC[5]? = _) mA_0 rfl rfl (Nat.le_of_ble_eq_true rfl) ⟨Nat.le_of_ble_eq_true rfl, Nat.le_of_ble_eq_true rfl⟩ (fun r27 st26 h => ?_)
            refine jr_if_eq (tgt := 151) C dMo_nearest_140 (by decide) (fun z => ?_) (fun z => ?_)
            · have h := h.1 z
              refine jr_iinc (q := 3) (v := (y23 + (1 : Int32))) (lv' := [(3, .int (y23 + (1 : Int32))), (0, .ref (ad 0)), (1, .int y21), (2, .int y22), (4, .int y24), (5, .int y25)]) C dMo_nearest_151 rfl rfl (by decide) rfl ?_
              refine jr_goto (tgt := 27) C dMo_nearest_154 (by decide) ?_
              refine jr_lv (lv' := [(0, .ref (ad 0)), (1, .int y21), (2, .int y22), (3, .int (y23 + (1 : Int32)))]) [1, 2, 3, 0] rfl ?_
              exact ih st26 y21 y22 (y23 + (1 : Int32)) h
            · have h := h.2 z
              refine jr_iload (q := 4) C dMo_nearest_143 rfl ?_
              refine jr_iload_n (q := 2) C dMo_nearest_145 rfl rfl ?_
              refine jr_icmp_ne (tgt := 151) C dMo_nearest_146 (by decide) (fun z => ?_) (fun z => ?_)
              · have h := h.1 z
                refine jr_iinc (q := 3) (v := (y23 + (1 : Int32))) (lv' := [(3, .int (y23 + (1 : Int32))), (0, .ref (ad 0)), (1, .int y21), (2, .int y22), (4, .int y24), (5, .int y25)]) C dMo_nearest_151 rfl rfl (by decide) rfl ?_
                refine jr_goto (tgt := 27) C dMo_nearest_154 (by decide) ?_
                refine jr_lv (lv' := [(0, .ref (ad 0)), (1, .int y21), (2, .int y22), (3, .int (y23 + (1 : Int32)))]) [1, 2, 3, 0] rfl ?_
                exact ih st26 y21 y22 (y23 + (1 : Int32)) h
              · have h := h.2 z
                refine jr_iload_n (q := 3) C dMo_nearest_149 rfl rfl ?_
                exact jr_reti C hr hlocks dMo_nearest_150 h rfl
    obtain ⟨n30, h⟩ := h
    refine jr_lv (lv' := [(0, .ref (ad 0)), (1, .int l1), (2, .int l2), (3, .int (0 : Int32))]) [1, 2, 3, 0] rfl ?_
    refine lp29 _ (fun st31 y32 y33 y34 h => ?_) n30 (jq st1 0 0 v4) l1 l2 (0 : Int32) h
    refine jr_aload_n (q := 0) C dMo_nearest_157 rfl rfl ?_
    refine jr_getf (k := 0) C dMo_nearest_158 inw_Mo (rfl : kC[5]? = _) (by decide) (List.mem_cons_of_mem _ tm3_129) rfl mA_0 rfl ?_
    refine jr_if_le (tgt := 168) C dMo_nearest_161 (by decide) (fun z => ?_) (fun z => ?_)
    · have h := h.1 z
      refine jr_iconst (v := -1) C dMo_nearest_168 (by decide) ?_
      exact jr_reti C hr hlocks dMo_nearest_169 h rfl
    · have h := h.2 z
      refine jr_iconst (v := 0) C dMo_nearest_164 (by decide) ?_
      refine jr_goto (tgt := 169) C dMo_nearest_165 (by decide) ?_
      exact jr_reti C hr hlocks dMo_nearest_169 h rfl
  refine jr_if_ne (tgt := 13) C dMo_nearest_6 (by decide) (fun z => ?_) (fun z => ?_)
  · have h := h.1 z
    refine jr_iload_n (q := 2) C dMo_nearest_13 rfl rfl ?_
    refine jr_if_ge (tgt := 21) C dMo_nearest_14 (by decide) (fun z => ?_) (fun z => ?_)
    · have h := h.1 z
      refine jr_iconst (v := 0) C dMo_nearest_21 (by decide) ?_
      refine jr_lv (lv' := [(0, .ref (ad 0)), (1, .int l1), (2, .int l2)]) [0, 1, 2] rfl ?_
      exact hj3 (0 : Int32) h
    · have h := h.2 z
      refine jr_iconst (v := 2) C dMo_nearest_17 (by decide) ?_
      refine jr_goto (tgt := 22) C dMo_nearest_18 (by decide) ?_
      refine jr_lv (lv' := [(0, .ref (ad 0)), (1, .int l1), (2, .int l2)]) [0, 1, 2] rfl ?_
      exact hj3 (2 : Int32) h
  · have h := h.2 z
    refine jr_iconst (v := 1) C dMo_nearest_9 (by decide) ?_
    refine jr_goto (tgt := 22) C dMo_nearest_10 (by decide) ?_
    refine jr_lv (lv' := [(0, .ref (ad 0)), (1, .int l1), (2, .int l2)]) [0, 1, 2] rfl ?_
    exact hj3 (1 : Int32) h
def wp_Mo_distance (st : jS) (l1 : Int32) (l2 : Int32) (post : Int32 → jS → Prop) : Prop :=
  wp_Mo_isExample st l1 (fun r2 st1 => (∃ j3 : jS → Int32 → Prop, (∀ (st6 : jS) (v7 : Int32), j3 st6 v7 → ((((jq st6 0 0 v7) 0 0) ≤ 0 → wp_Mo_apart (jq st6 0 0 v7) l1 l2 (fun r9 st8 => post r9 st8)) ∧ (¬ ((jq st6 0 0 v7) 0 0) ≤ 0 → post (0 : Int32) (jq st6 0 0 v7)))) ∧ ((r2 = 0 → j3 st1 (1 : Int32)) ∧ (¬ r2 = 0 → wp_Mo_isExample st1 l2 (fun r5 st4 => ((¬ r5 = 0 → j3 st4 (0 : Int32)) ∧ (r5 = 0 → j3 st4 (1 : Int32))))))))
set_option maxRecDepth 100000 in
set_option maxHeartbeats 4000000 in
theorem c_Mo_distance {st : jS} {l1 : Int32} {l2 : Int32} {post : Int32 → jS → Prop} (h : wp_Mo_distance st l1 l2 post) : jr_Mi l yMo_distance wMo_distance ({ frames := 2, cells := 0, slots := 0, locals := 43 }) [.ref (ad 0), .int l1, .int l2] D kC (kT cI cII cL cJ) (mW cI ad fr st) (mW cI ad fr) post := by
  refine jr_ofi (cc := bMo_distance) (nL := 3) (lv := [(0, .ref (ad 0)), (1, .int l1), (2, .int l2)]) (by decide) rfl (Nat.le_of_ble_eq_true rfl) rfl (fun p e s m args below meth c A C hr hlocks => ?_)
  unfold wp_Mo_distance at h
  refine jr_aload_n (q := 0) C dMo_distance_0 rfl rfl ?_
  refine jr_aload_n (q := 0) C dMo_distance_1 rfl rfl ?_
  refine jr_iload_n (q := 1) C dMo_distance_2 rfl rfl ?_
  refine jr_callVi (As := [.int l1]) (rest := [.ref (ad 0)]) C (c_Mo_isExample h) (cwV 1 C.2.2.2.2.1 (tg_V tm3_200 tm3_202 tp_19 tm1_7 tm3_203) rfl rfl rfl ⟨rfl, by decide, by decide, by decide⟩ ⟨Nat.le_of_ble_eq_true rfl, Nat.le_of_ble_eq_true rfl⟩) dMo_distance_3 (rfl : kC[5]? = _) mA_0 rfl rfl (Nat.le_of_ble_eq_true rfl) ⟨Nat.le_of_ble_eq_true rfl, Nat.le_of_ble_eq_true rfl⟩ (fun r2 st1 h => ?_)
  obtain ⟨j3, j3r, h⟩ := h
  have hj3 : ∀ (st6 : jS) (v7 : Int32), j3 st6 v7 → jr_J p l e (headSpec wMo_distance ({ frames := 2, cells := 0, slots := 0, locals := 43 })).room s m args below meth c A D kC 3 0 0 (MQ below (va_Qi post (jr_B D kC (kT cI cII cL cJ) (mW cI ad fr) A) A) args s 0 0 A) (mW cI ad fr st6) 22 [(0, .ref (ad 0)), (1, .int l1), (2, .int l2)] [.int v7, .ref (ad 0)] := by
    intro st6 v7 h
    have h := j3r st6 v7 h
    refine jr_putf (k := 0) C dMo_distance_22 inw_Mo ty_Mo ty_Mo_ok nm_Mo (rfl : kC[5]? = _) (by decide) (List.mem_cons_of_mem _ tm3_129) rfl rfl (ty := .int) rfl rfl rfl mA_0 (Nat.le_of_ble_eq_true rfl) ?_
    refine jr_ws (ws' := mW cI ad fr (jq st6 0 0 v7)) (mP_0_0) ?_
    refine jr_aload_n (q := 0) C dMo_distance_25 rfl rfl ?_
    refine jr_getf (k := 0) C dMo_distance_26 inw_Mo (rfl : kC[5]? = _) (by decide) (List.mem_cons_of_mem _ tm3_129) rfl mA_0 rfl ?_
    refine jr_if_le (tgt := 36) C dMo_distance_29 (by decide) (fun z => ?_) (fun z => ?_)
    · have h := h.1 z
      refine jr_aload_n (q := 0) C dMo_distance_36 rfl rfl ?_
      refine jr_iload_n (q := 1) C dMo_distance_37 rfl rfl ?_
      refine jr_iload_n (q := 2) C dMo_distance_38 rfl rfl ?_
      refine jr_callVi (As := [.int l1, .int l2]) (rest := []) C (c_Mo_apart h) (cwV 2 C.2.2.2.2.1 (tg_V tm4_50 tm4_52 tp_26 tm1_7 tm4_53) rfl rfl rfl ⟨rfl, by decide, by decide, by decide⟩ ⟨Nat.le_of_ble_eq_true rfl, Nat.le_of_ble_eq_true rfl⟩) dMo_distance_39 (rfl : kC[5]? = _) mA_0 rfl rfl (Nat.le_of_ble_eq_true rfl) ⟨Nat.le_of_ble_eq_true rfl, Nat.le_of_ble_eq_true rfl⟩ (fun r9 st8 h => ?_)
      exact jr_reti C hr hlocks dMo_distance_42 h rfl
    · have h := h.2 z
      refine jr_iconst (v := 0) C dMo_distance_32 (by decide) ?_
      refine jr_goto (tgt := 42) C dMo_distance_33 (by decide) ?_
      exact jr_reti C hr hlocks dMo_distance_42 h rfl
  refine jr_if_eq (tgt := 17) C dMo_distance_6 (by decide) (fun z => ?_) (fun z => ?_)
  · have h := h.1 z
    refine jr_iconst (v := 1) C dMo_distance_17 (by decide) ?_
    refine jr_goto (tgt := 22) C dMo_distance_18 (by decide) ?_
    refine jr_lv (lv' := [(0, .ref (ad 0)), (1, .int l1), (2, .int l2)]) [0, 1, 2] rfl ?_
    exact hj3 st1 (1 : Int32) h
  · have h := h.2 z
    refine jr_aload_n (q := 0) C dMo_distance_9 rfl rfl ?_
    refine jr_iload_n (q := 2) C dMo_distance_10 rfl rfl ?_
    refine jr_callVi (As := [.int l2]) (rest := [.ref (ad 0)]) C (c_Mo_isExample h) (cwV 1 C.2.2.2.2.1 (tg_V tm3_200 tm3_202 tp_19 tm1_7 tm3_203) rfl rfl rfl ⟨rfl, by decide, by decide, by decide⟩ ⟨Nat.le_of_ble_eq_true rfl, Nat.le_of_ble_eq_true rfl⟩) dMo_distance_11 (rfl : kC[5]? = _) mA_0 rfl rfl (Nat.le_of_ble_eq_true rfl) ⟨Nat.le_of_ble_eq_true rfl, Nat.le_of_ble_eq_true rfl⟩ (fun r5 st4 h => ?_)
    refine jr_if_ne (tgt := 21) C dMo_distance_14 (by decide) (fun z => ?_) (fun z => ?_)
    · have h := h.1 z
      refine jr_iconst (v := 0) C dMo_distance_21 (by decide) ?_
      refine jr_lv (lv' := [(0, .ref (ad 0)), (1, .int l1), (2, .int l2)]) [0, 1, 2] rfl ?_
      exact hj3 st4 (0 : Int32) h
    · have h := h.2 z
      refine jr_iconst (v := 1) C dMo_distance_17 (by decide) ?_
      refine jr_goto (tgt := 22) C dMo_distance_18 (by decide) ?_
      refine jr_lv (lv' := [(0, .ref (ad 0)), (1, .int l1), (2, .int l2)]) [0, 1, 2] rfl ?_
      exact hj3 st4 (1 : Int32) h
def wp_Mo_haul (st : jS) (l1 : Int32) (l2 : Int32) (post : Int32 → jS → Prop) : Prop :=
  wp_Mo_isIn st l1 (-100 : Int32) (100 : Int32) (fun r2 st1 => (∃ j3 : jS → Int32 → Prop, (∀ (st6 : jS) (v7 : Int32), j3 st6 v7 → ((((jq st6 0 0 v7) 0 0) ≤ 0 → vp_in ((jq st6 0 0 v7) 0 9) 12 ∧ vp_in ((jq (jq st6 0 0 v7) 5 (Int32.toNatClampNeg ((jq st6 0 0 v7) 0 9)) l1) 0 9) 12 ∧ post (((jq (jq (jq (jq st6 0 0 v7) 5 (Int32.toNatClampNeg ((jq st6 0 0 v7) 0 9)) l1) 6 (Int32.toNatClampNeg ((jq (jq st6 0 0 v7) 5 (Int32.toNatClampNeg ((jq st6 0 0 v7) 0 9)) l1) 0 9)) l2) 0 9 (((jq (jq (jq st6 0 0 v7) 5 (Int32.toNatClampNeg ((jq st6 0 0 v7) 0 9)) l1) 6 (Int32.toNatClampNeg ((jq (jq st6 0 0 v7) 5 (Int32.toNatClampNeg ((jq st6 0 0 v7) 0 9)) l1) 0 9)) l2) 0 9) + (1 : Int32))) 0 9) - (1 : Int32)) (jq (jq (jq (jq st6 0 0 v7) 5 (Int32.toNatClampNeg ((jq st6 0 0 v7) 0 9)) l1) 6 (Int32.toNatClampNeg ((jq (jq st6 0 0 v7) 5 (Int32.toNatClampNeg ((jq st6 0 0 v7) 0 9)) l1) 0 9)) l2) 0 9 (((jq (jq (jq st6 0 0 v7) 5 (Int32.toNatClampNeg ((jq st6 0 0 v7) 0 9)) l1) 6 (Int32.toNatClampNeg ((jq (jq st6 0 0 v7) 5 (Int32.toNatClampNeg ((jq st6 0 0 v7) 0 9)) l1) 0 9)) l2) 0 9) + (1 : Int32)))) ∧ (¬ ((jq st6 0 0 v7) 0 0) ≤ 0 → post (0 : Int32) (jq st6 0 0 v7)))) ∧ ((r2 = 0 → j3 st1 (1 : Int32)) ∧ (¬ r2 = 0 → wp_Mo_isIn st1 l2 (-100 : Int32) (100 : Int32) (fun r5 st4 => ((¬ r5 = 0 → ((¬ (st4 0 9) = (12 : Int32) → j3 st4 (0 : Int32)) ∧ ((st4 0 9) = (12 : Int32) → j3 st4 (2 : Int32)))) ∧ (r5 = 0 → j3 st4 (1 : Int32))))))))
set_option maxRecDepth 100000 in
set_option maxHeartbeats 4000000 in
theorem c_Mo_haul {st : jS} {l1 : Int32} {l2 : Int32} {post : Int32 → jS → Prop} (h : wp_Mo_haul st l1 l2 post) : jr_Mi l yMo_haul wMo_haul ({ frames := 1, cells := 0, slots := 0, locals := 22 }) [.ref (ad 0), .int l1, .int l2] D kC (kT cI cII cL cJ) (mW cI ad fr st) (mW cI ad fr) post := by
  refine jr_ofi (cc := bMo_haul) (nL := 3) (lv := [(0, .ref (ad 0)), (1, .int l1), (2, .int l2)]) (by decide) rfl (Nat.le_of_ble_eq_true rfl) rfl (fun p e s m args below meth c A C hr hlocks => ?_)
  unfold wp_Mo_haul at h
  refine jr_aload_n (q := 0) C dMo_haul_0 rfl rfl ?_
  refine jr_iload_n (q := 1) C dMo_haul_1 rfl rfl ?_
  refine jr_bipush (v := -100) C dMo_haul_2 (by decide) ?_
  refine jr_bipush (v := 100) C dMo_haul_4 (by decide) ?_
  refine jr_callSi (As := [.int l1, .int (-100 : Int32), .int (100 : Int32)]) (rest := [.ref (ad 0)]) C (c_Mo_isIn h) (va_cwS 3 C.2.2.2.2.1 (tg_S tm3_193 tm3_194 tm1_7 tm3_195) rfl rfl rfl ⟨by decide, by decide, by decide⟩ ⟨Nat.le_of_ble_eq_true rfl, Nat.le_of_ble_eq_true rfl⟩) dMo_haul_6 rfl rfl (Nat.le_of_ble_eq_true rfl) ⟨Nat.le_of_ble_eq_true rfl, Nat.le_of_ble_eq_true rfl⟩ (fun r2 st1 h => ?_)
  obtain ⟨j3, j3r, h⟩ := h
  have hj3 : ∀ (st6 : jS) (v7 : Int32), j3 st6 v7 → jr_J p l e (headSpec wMo_haul ({ frames := 1, cells := 0, slots := 0, locals := 22 })).room s m args below meth c A D kC 3 0 0 (MQ below (va_Qi post (jr_B D kC (kT cI cII cL cJ) (mW cI ad fr) A) A) args s 0 0 A) (mW cI ad fr st6) 41 [(0, .ref (ad 0)), (1, .int l1), (2, .int l2)] [.int v7, .ref (ad 0)] := by
    intro st6 v7 h
    have h := j3r st6 v7 h
    refine jr_putf (k := 0) C dMo_haul_41 inw_Mo ty_Mo ty_Mo_ok nm_Mo (rfl : kC[5]? = _) (by decide) (List.mem_cons_of_mem _ tm3_129) rfl rfl (ty := .int) rfl rfl rfl mA_0 (Nat.le_of_ble_eq_true rfl) ?_
    refine jr_ws (ws' := mW cI ad fr (jq st6 0 0 v7)) (mP_0_0) ?_
    refine jr_aload_n (q := 0) C dMo_haul_44 rfl rfl ?_
    refine jr_getf (k := 0) C dMo_haul_45 inw_Mo (rfl : kC[5]? = _) (by decide) (List.mem_cons_of_mem _ tm3_129) rfl mA_0 rfl ?_
    refine jr_if_le (tgt := 53) C dMo_haul_48 (by decide) (fun z => ?_) (fun z => ?_)
    · have h := h.1 z
      refine jr_aload_n (q := 0) C dMo_haul_53 rfl rfl ?_
      refine jr_getf (k := 10) C dMo_haul_54 inw_Mo (rfl : kC[5]? = _) (by decide) (List.mem_cons_of_mem _ tm3_139) rfl mA_0 rfl ?_
      refine jr_aload_n (q := 0) C dMo_haul_57 rfl rfl ?_
      refine jr_getf (k := 9) C dMo_haul_58 inw_Mo (rfl : kC[5]? = _) (by decide) (List.mem_cons_of_mem _ tm3_138) rfl mA_0 rfl ?_
      refine jr_iload_n (q := 1) C dMo_haul_61 rfl rfl ?_
      obtain ⟨h8, h⟩ := h
      refine jr_iast (t0 := 0) C dMo_haul_62 mA_5 rfl h8 ?_
      refine jr_ws (ws' := mW cI ad fr (jq (jq st6 0 0 v7) 5 (Int32.toNatClampNeg ((jq st6 0 0 v7) 0 9)) l1)) (mP_5) ?_
      refine jr_aload_n (q := 0) C dMo_haul_63 rfl rfl ?_
      refine jr_getf (k := 11) C dMo_haul_64 inw_Mo (rfl : kC[5]? = _) (by decide) (List.mem_cons_of_mem _ tm3_140) rfl mA_0 rfl ?_
      refine jr_aload_n (q := 0) C dMo_haul_67 rfl rfl ?_
      refine jr_getf (k := 9) C dMo_haul_68 inw_Mo (rfl : kC[5]? = _) (by decide) (List.mem_cons_of_mem _ tm3_138) rfl mA_0 rfl ?_
      refine jr_iload_n (q := 2) C dMo_haul_71 rfl rfl ?_
      obtain ⟨h9, h⟩ := h
      refine jr_iast (t0 := 0) C dMo_haul_72 mA_6 rfl h9 ?_
      refine jr_ws (ws' := mW cI ad fr (jq (jq (jq st6 0 0 v7) 5 (Int32.toNatClampNeg ((jq st6 0 0 v7) 0 9)) l1) 6 (Int32.toNatClampNeg ((jq (jq st6 0 0 v7) 5 (Int32.toNatClampNeg ((jq st6 0 0 v7) 0 9)) l1) 0 9)) l2)) (mP_6) ?_
      refine jr_aload_n (q := 0) C dMo_haul_73 rfl rfl ?_
      refine jr_dup C dMo_haul_74 rfl ?_
      refine jr_getf (k := 9) C dMo_haul_75 inw_Mo (rfl : kC[5]? = _) (by decide) (List.mem_cons_of_mem _ tm3_138) rfl mA_0 rfl ?_
      refine jr_iconst (v := 1) C dMo_haul_78 (by decide) ?_
      refine jr_iadd C dMo_haul_79 ?_
      refine jr_putf (k := 9) C dMo_haul_80 inw_Mo ty_Mo ty_Mo_ok nm_Mo (rfl : kC[5]? = _) (by decide) (List.mem_cons_of_mem _ tm3_138) rfl rfl (ty := .int) rfl rfl rfl mA_0 (Nat.le_of_ble_eq_true rfl) ?_
      refine jr_ws (ws' := mW cI ad fr (jq (jq (jq (jq st6 0 0 v7) 5 (Int32.toNatClampNeg ((jq st6 0 0 v7) 0 9)) l1) 6 (Int32.toNatClampNeg ((jq (jq st6 0 0 v7) 5 (Int32.toNatClampNeg ((jq st6 0 0 v7) 0 9)) l1) 0 9)) l2) 0 9 (((jq (jq (jq st6 0 0 v7) 5 (Int32.toNatClampNeg ((jq st6 0 0 v7) 0 9)) l1) 6 (Int32.toNatClampNeg ((jq (jq st6 0 0 v7) 5 (Int32.toNatClampNeg ((jq st6 0 0 v7) 0 9)) l1) 0 9)) l2) 0 9) + (1 : Int32)))) (mP_0_9) ?_
      refine jr_aload_n (q := 0) C dMo_haul_83 rfl rfl ?_
      refine jr_getf (k := 9) C dMo_haul_84 inw_Mo (rfl : kC[5]? = _) (by decide) (List.mem_cons_of_mem _ tm3_138) rfl mA_0 rfl ?_
      refine jr_iconst (v := 1) C dMo_haul_87 (by decide) ?_
      refine jr_isub C dMo_haul_88 ?_
      exact jr_reti C hr hlocks dMo_haul_89 h rfl
    · have h := h.2 z
      refine jr_iconst (v := 0) C dMo_haul_51 (by decide) ?_
      exact jr_reti C hr hlocks dMo_haul_52 h rfl
  refine jr_if_eq (tgt := 23) C dMo_haul_9 (by decide) (fun z => ?_) (fun z => ?_)
  · have h := h.1 z
    refine jr_iconst (v := 1) C dMo_haul_23 (by decide) ?_
    refine jr_goto (tgt := 41) C dMo_haul_24 (by decide) ?_
    refine jr_lv (lv' := [(0, .ref (ad 0)), (1, .int l1), (2, .int l2)]) [0, 1, 2] rfl ?_
    exact hj3 st1 (1 : Int32) h
  · have h := h.2 z
    refine jr_iload_n (q := 2) C dMo_haul_12 rfl rfl ?_
    refine jr_bipush (v := -100) C dMo_haul_13 (by decide) ?_
    refine jr_bipush (v := 100) C dMo_haul_15 (by decide) ?_
    refine jr_callSi (As := [.int l2, .int (-100 : Int32), .int (100 : Int32)]) (rest := [.ref (ad 0)]) C (c_Mo_isIn h) (va_cwS 3 C.2.2.2.2.1 (tg_S tm3_193 tm3_194 tm1_7 tm3_195) rfl rfl rfl ⟨by decide, by decide, by decide⟩ ⟨Nat.le_of_ble_eq_true rfl, Nat.le_of_ble_eq_true rfl⟩) dMo_haul_17 rfl rfl (Nat.le_of_ble_eq_true rfl) ⟨Nat.le_of_ble_eq_true rfl, Nat.le_of_ble_eq_true rfl⟩ (fun r5 st4 h => ?_)
    refine jr_if_ne (tgt := 27) C dMo_haul_20 (by decide) (fun z => ?_) (fun z => ?_)
    · have h := h.1 z
      refine jr_aload_n (q := 0) C dMo_haul_27 rfl rfl ?_
      refine jr_getf (k := 9) C dMo_haul_28 inw_Mo (rfl : kC[5]? = _) (by decide) (List.mem_cons_of_mem _ tm3_138) rfl mA_0 rfl ?_
      refine jr_bipush (v := 12) C dMo_haul_31 (by decide) ?_
      refine jr_icmp_ne (tgt := 40) C dMo_haul_33 (by decide) (fun z => ?_) (fun z => ?_)
      · have h := h.1 z
        refine jr_iconst (v := 0) C dMo_haul_40 (by decide) ?_
        refine jr_lv (lv' := [(0, .ref (ad 0)), (1, .int l1), (2, .int l2)]) [0, 1, 2] rfl ?_
        exact hj3 st4 (0 : Int32) h
      · have h := h.2 z
        refine jr_iconst (v := 2) C dMo_haul_36 (by decide) ?_
        refine jr_goto (tgt := 41) C dMo_haul_37 (by decide) ?_
        refine jr_lv (lv' := [(0, .ref (ad 0)), (1, .int l1), (2, .int l2)]) [0, 1, 2] rfl ?_
        exact hj3 st4 (2 : Int32) h
    · have h := h.2 z
      refine jr_iconst (v := 1) C dMo_haul_23 (by decide) ?_
      refine jr_goto (tgt := 41) C dMo_haul_24 (by decide) ?_
      refine jr_lv (lv' := [(0, .ref (ad 0)), (1, .int l1), (2, .int l2)]) [0, 1, 2] rfl ?_
      exact hj3 st4 (1 : Int32) h
def wp_Mo_grams (st : jS) (l1 : Int32) (l2 : Int32) (l3 : Int32) (post : Int32 → jS → Prop) : Prop :=
  wp_Mo_isIn st l1 (0 : Int32) ((st 0 9) - (1 : Int32)) (fun r2 st1 => (∃ j3 : jS → Int32 → Prop, (∀ (st8 : jS) (v9 : Int32), j3 st8 v9 → ((((jq st8 0 0 v9) 0 0) ≤ 0 → vp_in (((6 : Int32) * l1) + l2) 72 ∧ vp_in (((6 : Int32) * l1) + l2) 72 ∧ post ((jq st8 0 0 v9) 7 (Int32.toNatClampNeg (((6 : Int32) * l1) + l2))) (jq (jq st8 0 0 v9) 7 (Int32.toNatClampNeg (((6 : Int32) * l1) + l2)) l3)) ∧ (¬ ((jq st8 0 0 v9) 0 0) ≤ 0 → post (0 : Int32) (jq st8 0 0 v9)))) ∧ ((r2 = 0 → j3 st1 (1 : Int32)) ∧ (¬ r2 = 0 → wp_Mo_isKind st1 l2 (fun r5 st4 => ((¬ r5 = 0 → wp_Mo_isIn st4 l3 (0 : Int32) (1000 : Int32) (fun r7 st6 => ((¬ r7 = 0 → j3 st6 (0 : Int32)) ∧ (r7 = 0 → j3 st6 (2 : Int32))))) ∧ (r5 = 0 → j3 st4 (1 : Int32))))))))
set_option maxRecDepth 100000 in
set_option maxHeartbeats 4000000 in
theorem c_Mo_grams {st : jS} {l1 : Int32} {l2 : Int32} {l3 : Int32} {post : Int32 → jS → Prop} (h : wp_Mo_grams st l1 l2 l3 post) : jr_Mi l yMo_grams wMo_grams ({ frames := 2, cells := 0, slots := 0, locals := 43 }) [.ref (ad 0), .int l1, .int l2, .int l3] D kC (kT cI cII cL cJ) (mW cI ad fr st) (mW cI ad fr) post := by
  refine jr_ofi (cc := bMo_grams) (nL := 5) (lv := [(0, .ref (ad 0)), (1, .int l1), (2, .int l2), (3, .int l3)]) (by decide) rfl (Nat.le_of_ble_eq_true rfl) rfl (fun p e s m args below meth c A C hr hlocks => ?_)
  unfold wp_Mo_grams at h
  refine jr_aload_n (q := 0) C dMo_grams_0 rfl rfl ?_
  refine jr_iload_n (q := 1) C dMo_grams_1 rfl rfl ?_
  refine jr_iconst (v := 0) C dMo_grams_2 (by decide) ?_
  refine jr_aload_n (q := 0) C dMo_grams_3 rfl rfl ?_
  refine jr_getf (k := 9) C dMo_grams_4 inw_Mo (rfl : kC[5]? = _) (by decide) (List.mem_cons_of_mem _ tm3_138) rfl mA_0 rfl ?_
  refine jr_iconst (v := 1) C dMo_grams_7 (by decide) ?_
  refine jr_isub C dMo_grams_8 ?_
  refine jr_callSi (As := [.int l1, .int (0 : Int32), .int ((st 0 9) - (1 : Int32))]) (rest := [.ref (ad 0)]) C (c_Mo_isIn h) (va_cwS 3 C.2.2.2.2.1 (tg_S tm3_193 tm3_194 tm1_7 tm3_195) rfl rfl rfl ⟨by decide, by decide, by decide⟩ ⟨Nat.le_of_ble_eq_true rfl, Nat.le_of_ble_eq_true rfl⟩) dMo_grams_9 rfl rfl (Nat.le_of_ble_eq_true rfl) ⟨Nat.le_of_ble_eq_true rfl, Nat.le_of_ble_eq_true rfl⟩ (fun r2 st1 h => ?_)
  obtain ⟨j3, j3r, h⟩ := h
  have hj3 : ∀ (st8 : jS) (v9 : Int32), j3 st8 v9 → jr_J p l e (headSpec wMo_grams ({ frames := 2, cells := 0, slots := 0, locals := 43 })).room s m args below meth c A D kC 5 0 0 (MQ below (va_Qi post (jr_B D kC (kT cI cII cL cJ) (mW cI ad fr) A) A) args s 0 0 A) (mW cI ad fr st8) 43 [(0, .ref (ad 0)), (1, .int l1), (2, .int l2), (3, .int l3)] [.int v9, .ref (ad 0)] := by
    intro st8 v9 h
    have h := j3r st8 v9 h
    refine jr_putf (k := 0) C dMo_grams_43 inw_Mo ty_Mo ty_Mo_ok nm_Mo (rfl : kC[5]? = _) (by decide) (List.mem_cons_of_mem _ tm3_129) rfl rfl (ty := .int) rfl rfl rfl mA_0 (Nat.le_of_ble_eq_true rfl) ?_
    refine jr_ws (ws' := mW cI ad fr (jq st8 0 0 v9)) (mP_0_0) ?_
    refine jr_aload_n (q := 0) C dMo_grams_46 rfl rfl ?_
    refine jr_getf (k := 0) C dMo_grams_47 inw_Mo (rfl : kC[5]? = _) (by decide) (List.mem_cons_of_mem _ tm3_129) rfl mA_0 rfl ?_
    refine jr_if_le (tgt := 55) C dMo_grams_50 (by decide) (fun z => ?_) (fun z => ?_)
    · have h := h.1 z
      refine jr_aload_n (q := 0) C dMo_grams_55 rfl rfl ?_
      refine jr_getf (k := 12) C dMo_grams_56 inw_Mo (rfl : kC[5]? = _) (by decide) (List.mem_cons_of_mem _ tm3_141) rfl mA_0 rfl ?_
      refine jr_bipush (v := 6) C dMo_grams_59 (by decide) ?_
      refine jr_iload_n (q := 1) C dMo_grams_61 rfl rfl ?_
      refine jr_imul C dMo_grams_62 ?_
      refine jr_iload_n (q := 2) C dMo_grams_63 rfl rfl ?_
      refine jr_iadd C dMo_grams_64 ?_
      obtain ⟨h10, h⟩ := h
      refine jr_iald (t0 := 0) C dMo_grams_65 mA_7 rfl h10 ?_
      refine jr_istore (lv' := [(4, .int ((jq st8 0 0 v9) 7 (Int32.toNatClampNeg (((6 : Int32) * l1) + l2)))), (0, .ref (ad 0)), (1, .int l1), (2, .int l2), (3, .int l3)]) C dMo_grams_66 (by decide) rfl ?_
      refine jr_aload_n (q := 1) C dMo_grams_68 rfl rfl ?_
      refine jr_getf (k := 12) C dMo_grams_69 inw_Mo (rfl : kC[5]? = _) (by decide) (List.mem_cons_of_mem _ tm3_141) rfl mA_0 rfl ?_
      refine jr_bipush (v := 6) C dMo_grams_72 (by decide) ?_
      refine jr_iload_n (q := 2) C dMo_grams_74 rfl rfl ?_
      refine jr_imul C dMo_grams_75 ?_
      refine jr_iload_n (q := 3) C dMo_grams_76 rfl rfl ?_
      refine jr_iadd C dMo_grams_77 ?_
      refine jr_iload_n (q := 4) C dMo_grams_78 rfl rfl ?_
      obtain ⟨h11, h⟩ := h
      refine jr_iast (t0 := 0) C dMo_grams_79 mA_7 rfl h11 ?_
      refine jr_ws (ws' := mW cI ad fr (jq (jq st8 0 0 v9) 7 (Int32.toNatClampNeg (((6 : Int32) * l1) + l2)) l3)) (mP_7) ?_
      refine jr_iload (q := 0) C dMo_grams_80 rfl ?_
      exact jr_reti C hr hlocks dMo_grams_82 h rfl
    · have h := h.2 z
      refine jr_iconst (v := 0) C dMo_grams_53 (by decide) ?_
      exact jr_reti C hr hlocks dMo_grams_54 h rfl
  refine jr_if_eq (tgt := 23) C dMo_grams_12 (by decide) (fun z => ?_) (fun z => ?_)
  · have h := h.1 z
    refine jr_iconst (v := 1) C dMo_grams_23 (by decide) ?_
    refine jr_goto (tgt := 43) C dMo_grams_24 (by decide) ?_
    refine jr_lv (lv' := [(0, .ref (ad 0)), (1, .int l1), (2, .int l2), (3, .int l3)]) [0, 1, 2, 3] rfl ?_
    exact hj3 st1 (1 : Int32) h
  · have h := h.2 z
    refine jr_aload_n (q := 0) C dMo_grams_15 rfl rfl ?_
    refine jr_iload_n (q := 2) C dMo_grams_16 rfl rfl ?_
    refine jr_callVi (As := [.int l2]) (rest := [.ref (ad 0)]) C (c_Mo_isKind h) (cwV 1 C.2.2.2.2.1 (tg_V tm3_189 tm3_191 tp_18 tm1_7 tm3_192) rfl rfl rfl ⟨rfl, by decide, by decide, by decide⟩ ⟨Nat.le_of_ble_eq_true rfl, Nat.le_of_ble_eq_true rfl⟩) dMo_grams_17 (rfl : kC[5]? = _) mA_0 rfl rfl (Nat.le_of_ble_eq_true rfl) ⟨Nat.le_of_ble_eq_true rfl, Nat.le_of_ble_eq_true rfl⟩ (fun r5 st4 h => ?_)
    refine jr_if_ne (tgt := 27) C dMo_grams_20 (by decide) (fun z => ?_) (fun z => ?_)
    · have h := h.1 z
      refine jr_iload_n (q := 3) C dMo_grams_27 rfl rfl ?_
      refine jr_iconst (v := 0) C dMo_grams_28 (by decide) ?_
      refine jr_sipush (v := 1000) C dMo_grams_29 (by decide) ?_
      refine jr_callSi (As := [.int l3, .int (0 : Int32), .int (1000 : Int32)]) (rest := [.ref (ad 0)]) C (c_Mo_isIn h) (va_cwS 3 C.2.2.2.2.1 (tg_S tm3_193 tm3_194 tm1_7 tm3_195) rfl rfl rfl ⟨by decide, by decide, by decide⟩ ⟨Nat.le_of_ble_eq_true rfl, Nat.le_of_ble_eq_true rfl⟩) dMo_grams_32 rfl rfl (Nat.le_of_ble_eq_true rfl) ⟨Nat.le_of_ble_eq_true rfl, Nat.le_of_ble_eq_true rfl⟩ (fun r7 st6 h => ?_)
      refine jr_if_ne (tgt := 42) C dMo_grams_35 (by decide) (fun z => ?_) (fun z => ?_)
      · have h := h.1 z
        refine jr_iconst (v := 0) C dMo_grams_42 (by decide) ?_
        refine jr_lv (lv' := [(0, .ref (ad 0)), (1, .int l1), (2, .int l2), (3, .int l3)]) [0, 1, 2, 3] rfl ?_
        exact hj3 st6 (0 : Int32) h
      · have h := h.2 z
        refine jr_iconst (v := 2) C dMo_grams_38 (by decide) ?_
        refine jr_goto (tgt := 43) C dMo_grams_39 (by decide) ?_
        refine jr_lv (lv' := [(0, .ref (ad 0)), (1, .int l1), (2, .int l2), (3, .int l3)]) [0, 1, 2, 3] rfl ?_
        exact hj3 st6 (2 : Int32) h
    · have h := h.2 z
      refine jr_iconst (v := 1) C dMo_grams_23 (by decide) ?_
      refine jr_goto (tgt := 43) C dMo_grams_24 (by decide) ?_
      refine jr_lv (lv' := [(0, .ref (ad 0)), (1, .int l1), (2, .int l2), (3, .int l3)]) [0, 1, 2, 3] rfl ?_
      exact hj3 st4 (1 : Int32) h
end MO
