section MO
variable {l : Launch} {D : va_G} {cI cII cL cJ : ClassId} {ad : Nat → Nat} {fr : va_W}
def wp_Mo_rightOf_4 (post : Int32 → jS → Prop) : Nat → jS → Int32 → Int32 → Int32 → Prop
  | 0 => fun _ _ _ _ => False
  | n + 1 => fun st x1 x2 x3 => (((st 0 4) ≤ x3 → post x2 st) ∧ (¬ (st 0 4) ≤ x3 → vp_in x3 24 ∧ (((st 2 (Int32.toNatClampNeg x3)) = (-1 : Int32) → wp_Mo_rightOf_4 post n st x1 x2 (x3 + (1 : Int32))) ∧ (¬ (st 2 (Int32.toNatClampNeg x3)) = (-1 : Int32) → wp_Mo_toldBy st x3 x1 (x1 + (1 : Int32)) (fun r3 st2 => vp_in x3 24 ∧ ((¬ r3 = (st2 2 (Int32.toNatClampNeg x3)) → wp_Mo_rightOf_4 post n st2 x1 x2 (x3 + (1 : Int32))) ∧ (r3 = (st2 2 (Int32.toNatClampNeg x3)) → wp_Mo_rightOf_4 post n st2 x1 (x2 + (1 : Int32)) (x3 + (1 : Int32)))))))))
def wp_Mo_rightOf (st : jS) (l1 : Int32) (post : Int32 → jS → Prop) : Prop :=
  (∃ n7, wp_Mo_rightOf_4 post n7 st l1 (0 : Int32) (0 : Int32))
set_option maxRecDepth 100000 in
set_option maxHeartbeats 4000000 in
theorem c_Mo_rightOf {st : jS} {l1 : Int32} {post : Int32 → jS → Prop} (h : wp_Mo_rightOf st l1 post) : jr_Mi l yMo_rightOf wMo_rightOf ({ frames := 3, cells := 0, slots := 0, locals := 76 }) [.ref (ad 0), .int l1] D kC (kT cI cII cL cJ) (mW cI ad fr st) (mW cI ad fr) post := by
  refine jr_ofi (cc := bMo_rightOf) (nL := 4) (lv := [(0, .ref (ad 0)), (1, .int l1)]) (by decide) rfl (Nat.le_of_ble_eq_true rfl) rfl (fun p e s m args below meth c A C hr hlocks => ?_)
  unfold wp_Mo_rightOf at h
  refine jr_iconst (v := 0) C dMo_rightOf_0 (by decide) ?_
  refine jr_istore_n (lv' := [(2, .int (0 : Int32)), (0, .ref (ad 0)), (1, .int l1)]) C dMo_rightOf_1 rfl (by decide) rfl ?_
  refine jr_iconst (v := 0) C dMo_rightOf_2 (by decide) ?_
  refine jr_istore_n (lv' := [(3, .int (0 : Int32)), (2, .int (0 : Int32)), (0, .ref (ad 0)), (1, .int l1)]) C dMo_rightOf_3 rfl (by decide) rfl ?_
  have lp5 : ∀ (n : Nat) (st : jS) (x1 : Int32) (x2 : Int32) (x3 : Int32), wp_Mo_rightOf_4 post n st x1 x2 x3 → jr_J p l e (headSpec wMo_rightOf ({ frames := 3, cells := 0, slots := 0, locals := 76 })).room s m args below meth c A D kC 4 0 0 (MQ below (va_Qi post (jr_B D kC (kT cI cII cL cJ) (mW cI ad fr) A) A) args s 0 0 A) (mW cI ad fr st) 4 [(0, .ref (ad 0)), (1, .int x1), (2, .int x2), (3, .int x3)] [] := by
    intro n
    induction n with
    | zero => intro st x1 x2 x3 h; exact h.elim
    | succ n ih =>
      intro st x1 x2 x3 h
      unfold wp_Mo_rightOf_4 at h
      refine jr_iload_n (q := 3) C dMo_rightOf_4 rfl rfl ?_
      refine jr_aload_n (q := 0) C dMo_rightOf_5 rfl rfl ?_
      refine jr_getf (k := 4) C dMo_rightOf_6 inw_Mo (rfl : kC[5]? = _) (by decide) (List.mem_cons_of_mem _ tm3_133) rfl mA_0 rfl ?_
      refine jr_icmp_ge (tgt := 54) C dMo_rightOf_9 (by decide) (fun z => ?_) (fun z => ?_)
      · have h := h.1 z
        refine jr_iload_n (q := 2) C dMo_rightOf_54 rfl rfl ?_
        exact jr_reti C hr hlocks dMo_rightOf_55 h rfl
      · have h := h.2 z
        refine jr_aload_n (q := 0) C dMo_rightOf_12 rfl rfl ?_
        refine jr_getf (k := 5) C dMo_rightOf_13 inw_Mo (rfl : kC[5]? = _) (by decide) (List.mem_cons_of_mem _ tm3_134) rfl mA_0 rfl ?_
        refine jr_iload_n (q := 3) C dMo_rightOf_16 rfl rfl ?_
        obtain ⟨h1, h⟩ := h
        refine jr_iald (t0 := 0) C dMo_rightOf_17 mA_2 rfl h1 ?_
        refine jr_iconst (v := -1) C dMo_rightOf_18 (by decide) ?_
        refine jr_icmp_eq (tgt := 46) C dMo_rightOf_19 (by decide) (fun z => ?_) (fun z => ?_)
        · have h := h.1 z
          refine jr_iload_n (q := 2) C dMo_rightOf_46 rfl rfl ?_
          refine jr_istore_n (lv' := [(2, .int x2), (0, .ref (ad 0)), (1, .int x1), (3, .int x3)]) C dMo_rightOf_47 rfl (by decide) rfl ?_
          refine jr_iinc (q := 3) (v := (x3 + (1 : Int32))) (lv' := [(3, .int (x3 + (1 : Int32))), (2, .int x2), (0, .ref (ad 0)), (1, .int x1)]) C dMo_rightOf_48 rfl rfl (by decide) rfl ?_
          refine jr_goto (tgt := 4) C dMo_rightOf_51 (by decide) ?_
          refine jr_lv (lv' := [(0, .ref (ad 0)), (1, .int x1), (2, .int x2), (3, .int (x3 + (1 : Int32)))]) [2, 3, 1, 0] rfl ?_
          exact ih st x1 x2 (x3 + (1 : Int32)) h
        · have h := h.2 z
          refine jr_aload_n (q := 0) C dMo_rightOf_22 rfl rfl ?_
          refine jr_iload_n (q := 3) C dMo_rightOf_23 rfl rfl ?_
          refine jr_iload_n (q := 1) C dMo_rightOf_24 rfl rfl ?_
          refine jr_iload_n (q := 1) C dMo_rightOf_25 rfl rfl ?_
          refine jr_iconst (v := 1) C dMo_rightOf_26 (by decide) ?_
          refine jr_iadd C dMo_rightOf_27 ?_
          refine jr_callVi (As := [.int x3, .int x1, .int (x1 + (1 : Int32))]) (rest := []) C (c_Mo_toldBy h) (cwV 3 C.2.2.2.2.1 (tg_V tm3_236 tm3_238 tp_23 tm1_7 tm3_239) rfl rfl rfl ⟨rfl, by decide, by decide, by decide⟩ ⟨Nat.le_of_ble_eq_true rfl, Nat.le_of_ble_eq_true rfl⟩) dMo_rightOf_28 (rfl : kC[5]? = _) mA_0 rfl rfl (Nat.le_of_ble_eq_true rfl) ⟨Nat.le_of_ble_eq_true rfl, Nat.le_of_ble_eq_true rfl⟩ (fun r3 st2 h => ?_)
          refine jr_aload_n (q := 0) C dMo_rightOf_31 rfl rfl ?_
          refine jr_getf (k := 5) C dMo_rightOf_32 inw_Mo (rfl : kC[5]? = _) (by decide) (List.mem_cons_of_mem _ tm3_134) rfl mA_0 rfl ?_
          refine jr_iload_n (q := 3) C dMo_rightOf_35 rfl rfl ?_
          obtain ⟨h4, h⟩ := h
          refine jr_iald (t0 := 0) C dMo_rightOf_36 mA_2 rfl h4 ?_
          refine jr_icmp_ne (tgt := 46) C dMo_rightOf_37 (by decide) (fun z => ?_) (fun z => ?_)
          · have h := h.1 z
            refine jr_iload_n (q := 2) C dMo_rightOf_46 rfl rfl ?_
            refine jr_istore_n (lv' := [(2, .int x2), (0, .ref (ad 0)), (1, .int x1), (3, .int x3)]) C dMo_rightOf_47 rfl (by decide) rfl ?_
            refine jr_iinc (q := 3) (v := (x3 + (1 : Int32))) (lv' := [(3, .int (x3 + (1 : Int32))), (2, .int x2), (0, .ref (ad 0)), (1, .int x1)]) C dMo_rightOf_48 rfl rfl (by decide) rfl ?_
            refine jr_goto (tgt := 4) C dMo_rightOf_51 (by decide) ?_
            refine jr_lv (lv' := [(0, .ref (ad 0)), (1, .int x1), (2, .int x2), (3, .int (x3 + (1 : Int32)))]) [2, 3, 1, 0] rfl ?_
            exact ih st2 x1 x2 (x3 + (1 : Int32)) h
          · have h := h.2 z
            refine jr_iload_n (q := 2) C dMo_rightOf_40 rfl rfl ?_
            refine jr_iconst (v := 1) C dMo_rightOf_41 (by decide) ?_
            refine jr_iadd C dMo_rightOf_42 ?_
            refine jr_goto (tgt := 47) C dMo_rightOf_43 (by decide) ?_
            refine jr_istore_n (lv' := [(2, .int (x2 + (1 : Int32))), (0, .ref (ad 0)), (1, .int x1), (3, .int x3)]) C dMo_rightOf_47 rfl (by decide) rfl ?_
            refine jr_iinc (q := 3) (v := (x3 + (1 : Int32))) (lv' := [(3, .int (x3 + (1 : Int32))), (2, .int (x2 + (1 : Int32))), (0, .ref (ad 0)), (1, .int x1)]) C dMo_rightOf_48 rfl rfl (by decide) rfl ?_
            refine jr_goto (tgt := 4) C dMo_rightOf_51 (by decide) ?_
            refine jr_lv (lv' := [(0, .ref (ad 0)), (1, .int x1), (2, .int (x2 + (1 : Int32))), (3, .int (x3 + (1 : Int32)))]) [2, 3, 1, 0] rfl ?_
            exact ih st2 x1 (x2 + (1 : Int32)) (x3 + (1 : Int32)) h
  obtain ⟨n6, h⟩ := h
  refine jr_lv (lv' := [(0, .ref (ad 0)), (1, .int l1), (2, .int (0 : Int32)), (3, .int (0 : Int32))]) [2, 3, 1, 0] rfl ?_
  exact lp5 n6 st l1 (0 : Int32) (0 : Int32) h
def wp_Mo_right (st : jS) (l1 : Int32) (post : Int32 → jS → Prop) : Prop :=
  wp_Mo_isFeature st l1 (fun r2 st1 => (∃ j3 : Int32 → Prop, (∀ (v4 : Int32), j3 v4 → ((((jq st1 0 0 v4) 0 0) ≤ 0 → wp_Mo_rightOf (jq st1 0 0 v4) l1 (fun r6 st5 => post r6 st5)) ∧ (¬ ((jq st1 0 0 v4) 0 0) ≤ 0 → post (0 : Int32) (jq st1 0 0 v4)))) ∧ ((¬ r2 = 0 → j3 (0 : Int32)) ∧ (r2 = 0 → j3 (1 : Int32)))))
set_option maxRecDepth 100000 in
set_option maxHeartbeats 4000000 in
theorem c_Mo_right {st : jS} {l1 : Int32} {post : Int32 → jS → Prop} (h : wp_Mo_right st l1 post) : jr_Mi l yMo_right wMo_right ({ frames := 4, cells := 0, slots := 0, locals := 99 }) [.ref (ad 0), .int l1] D kC (kT cI cII cL cJ) (mW cI ad fr st) (mW cI ad fr) post := by
  refine jr_ofi (cc := bMo_right) (nL := 2) (lv := [(0, .ref (ad 0)), (1, .int l1)]) (by decide) rfl (Nat.le_of_ble_eq_true rfl) rfl (fun p e s m args below meth c A C hr hlocks => ?_)
  unfold wp_Mo_right at h
  refine jr_aload_n (q := 0) C dMo_right_0 rfl rfl ?_
  refine jr_aload_n (q := 0) C dMo_right_1 rfl rfl ?_
  refine jr_iload_n (q := 1) C dMo_right_2 rfl rfl ?_
  refine jr_callVi (As := [.int l1]) (rest := [.ref (ad 0)]) C (c_Mo_isFeature h) (cwV 1 C.2.2.2.2.1 (tg_V tm3_204 tm3_206 tp_20 tm1_7 tm3_207) rfl rfl rfl ⟨rfl, by decide, by decide, by decide⟩ ⟨Nat.le_of_ble_eq_true rfl, Nat.le_of_ble_eq_true rfl⟩) dMo_right_3 (rfl : kC[5]? = _) mA_0 rfl rfl (Nat.le_of_ble_eq_true rfl) ⟨Nat.le_of_ble_eq_true rfl, Nat.le_of_ble_eq_true rfl⟩ (fun r2 st1 h => ?_)
  obtain ⟨j3, j3r, h⟩ := h
  have hj3 : ∀ (v4 : Int32), j3 v4 → jr_J p l e (headSpec wMo_right ({ frames := 4, cells := 0, slots := 0, locals := 99 })).room s m args below meth c A D kC 2 0 0 (MQ below (va_Qi post (jr_B D kC (kT cI cII cL cJ) (mW cI ad fr) A) A) args s 0 0 A) (mW cI ad fr st1) 14 [(0, .ref (ad 0)), (1, .int l1)] [.int v4, .ref (ad 0)] := by
    intro v4 h
    have h := j3r v4 h
    refine jr_putf (k := 0) C dMo_right_14 inw_Mo ty_Mo ty_Mo_ok nm_Mo (rfl : kC[5]? = _) (by decide) (List.mem_cons_of_mem _ tm3_129) rfl rfl (ty := .int) rfl rfl rfl mA_0 (Nat.le_of_ble_eq_true rfl) ?_
    refine jr_ws (ws' := mW cI ad fr (jq st1 0 0 v4)) (mP_0_0) ?_
    refine jr_aload_n (q := 0) C dMo_right_17 rfl rfl ?_
    refine jr_getf (k := 0) C dMo_right_18 inw_Mo (rfl : kC[5]? = _) (by decide) (List.mem_cons_of_mem _ tm3_129) rfl mA_0 rfl ?_
    refine jr_if_le (tgt := 28) C dMo_right_21 (by decide) (fun z => ?_) (fun z => ?_)
    · have h := h.1 z
      refine jr_aload_n (q := 0) C dMo_right_28 rfl rfl ?_
      refine jr_iload_n (q := 1) C dMo_right_29 rfl rfl ?_
      refine jr_callVi (As := [.int l1]) (rest := []) C (c_Mo_rightOf h) (cwV 1 C.2.2.2.2.1 (tg_V tm4_22 tm4_24 tp_24 tm1_7 tm4_25) rfl rfl rfl ⟨rfl, by decide, by decide, by decide⟩ ⟨Nat.le_of_ble_eq_true rfl, Nat.le_of_ble_eq_true rfl⟩) dMo_right_30 (rfl : kC[5]? = _) mA_0 rfl rfl (Nat.le_of_ble_eq_true rfl) ⟨Nat.le_of_ble_eq_true rfl, Nat.le_of_ble_eq_true rfl⟩ (fun r6 st5 h => ?_)
      exact jr_reti C hr hlocks dMo_right_33 h rfl
    · have h := h.2 z
      refine jr_iconst (v := 0) C dMo_right_24 (by decide) ?_
      refine jr_goto (tgt := 33) C dMo_right_25 (by decide) ?_
      exact jr_reti C hr hlocks dMo_right_33 h rfl
  refine jr_if_ne (tgt := 13) C dMo_right_6 (by decide) (fun z => ?_) (fun z => ?_)
  · have h := h.1 z
    refine jr_iconst (v := 0) C dMo_right_13 (by decide) ?_
    refine jr_lv (lv' := [(0, .ref (ad 0)), (1, .int l1)]) [0, 1] rfl ?_
    exact hj3 (0 : Int32) h
  · have h := h.2 z
    refine jr_iconst (v := 1) C dMo_right_9 (by decide) ?_
    refine jr_goto (tgt := 14) C dMo_right_10 (by decide) ?_
    refine jr_lv (lv' := [(0, .ref (ad 0)), (1, .int l1)]) [0, 1] rfl ?_
    exact hj3 (1 : Int32) h
def wp_Mo_best_39 (post : Int32 → jS → Prop) (kont : jS → Int32 → Int32 → Int32 → Int32 → Prop) : Nat → jS → Int32 → Int32 → Int32 → Int32 → Prop
  | 0 => fun _ _ _ _ _ => False
  | n + 1 => fun st x1 x2 x3 x4 => (((st 0 2) ≤ x4 → kont st x1 x2 x3 x4) ∧ (¬ (st 0 2) ≤ x4 → wp_Mo_rightOf st x4 (fun r6 st5 => wp_Mo_rightOf st5 x2 (fun r8 st7 => (∃ j9 : jS → Int32 → Prop, (∀ (st14 : jS) (v15 : Int32), j9 st14 v15 → ((v15 = 0 → wp_Mo_best_39 post kont n st14 x1 x2 x3 (x4 + (1 : Int32))) ∧ (¬ v15 = 0 → wp_Mo_best_39 post kont n st14 x1 x2 (x3 + (1 : Int32)) (x4 + (1 : Int32))))) ∧ ((r8 < r6 → j9 st7 (1 : Int32)) ∧ (¬ r8 < r6 → wp_Mo_rightOf st7 x4 (fun r11 st10 => wp_Mo_rightOf st10 x2 (fun r13 st12 => ((¬ r11 = r13 → j9 st12 (0 : Int32)) ∧ (r11 = r13 → ((x2 ≤ x4 → j9 st12 (0 : Int32)) ∧ (¬ x2 ≤ x4 → j9 st12 (1 : Int32))))))))))))))
def wp_Mo_best_19 (post : Int32 → jS → Prop) : Nat → jS → Int32 → Int32 → Prop
  | 0 => fun _ _ _ => False
  | n + 1 => fun st x1 x2 => (((st 0 2) ≤ x2 → post (0 : Int32) st) ∧ (¬ (st 0 2) ≤ x2 → ((¬ (st 0 0) = 0 → post (0 : Int32) st) ∧ ((st 0 0) = 0 → (∃ n23, wp_Mo_best_39 post (fun st18 y19 y20 y21 y22 => ((¬ y21 = y19 → wp_Mo_best_19 post n st18 y19 (y20 + (1 : Int32))) ∧ (y21 = y19 → post y20 st18))) n23 st x1 x2 (0 : Int32) (0 : Int32))))))
def wp_Mo_best (st : jS) (l1 : Int32) (post : Int32 → jS → Prop) : Prop :=
  wp_Mo_isFeature st l1 (fun r2 st1 => (∃ j3 : Int32 → Prop, (∀ (v4 : Int32), j3 v4 → (∃ n26, wp_Mo_best_19 post n26 (jq st1 0 0 v4) l1 (0 : Int32))) ∧ ((¬ r2 = 0 → j3 (0 : Int32)) ∧ (r2 = 0 → j3 (1 : Int32)))))
set_option maxRecDepth 100000 in
set_option maxHeartbeats 4000000 in
theorem c_Mo_best {st : jS} {l1 : Int32} {post : Int32 → jS → Prop} (h : wp_Mo_best st l1 post) : jr_Mi l yMo_best wMo_best ({ frames := 4, cells := 0, slots := 0, locals := 99 }) [.ref (ad 0), .int l1] D kC (kT cI cII cL cJ) (mW cI ad fr st) (mW cI ad fr) post := by
  refine jr_ofi (cc := bMo_best) (nL := 6) (lv := [(0, .ref (ad 0)), (1, .int l1)]) (by decide) rfl (Nat.le_of_ble_eq_true rfl) rfl (fun p e s m args below meth c A C hr hlocks => ?_)
  unfold wp_Mo_best at h
  refine jr_aload_n (q := 0) C dMo_best_0 rfl rfl ?_
  refine jr_aload_n (q := 0) C dMo_best_1 rfl rfl ?_
  refine jr_iload_n (q := 1) C dMo_best_2 rfl rfl ?_
  refine jr_callVi (As := [.int l1]) (rest := [.ref (ad 0)]) C (c_Mo_isFeature h) (cwV 1 C.2.2.2.2.1 (tg_V tm3_204 tm3_206 tp_20 tm1_7 tm3_207) rfl rfl rfl ⟨rfl, by decide, by decide, by decide⟩ ⟨Nat.le_of_ble_eq_true rfl, Nat.le_of_ble_eq_true rfl⟩) dMo_best_3 (rfl : kC[5]? = _) mA_0 rfl rfl (Nat.le_of_ble_eq_true rfl) ⟨Nat.le_of_ble_eq_true rfl, Nat.le_of_ble_eq_true rfl⟩ (fun r2 st1 h => ?_)
  obtain ⟨j3, j3r, h⟩ := h
  have hj3 : ∀ (v4 : Int32), j3 v4 → jr_J p l e (headSpec wMo_best ({ frames := 4, cells := 0, slots := 0, locals := 99 })).room s m args below meth c A D kC 6 0 0 (MQ below (va_Qi post (jr_B D kC (kT cI cII cL cJ) (mW cI ad fr) A) A) args s 0 0 A) (mW cI ad fr st1) 14 [(0, .ref (ad 0)), (1, .int l1)] [.int v4, .ref (ad 0)] := by
    intro v4 h
    have h := j3r v4 h
    refine jr_putf (k := 0) C dMo_best_14 inw_Mo ty_Mo ty_Mo_ok nm_Mo (rfl : kC[5]? = _) (by decide) (List.mem_cons_of_mem _ tm3_129) rfl rfl (ty := .int) rfl rfl rfl mA_0 (Nat.le_of_ble_eq_true rfl) ?_
    refine jr_ws (ws' := mW cI ad fr (jq st1 0 0 v4)) (mP_0_0) ?_
    refine jr_iconst (v := 0) C dMo_best_17 (by decide) ?_
    refine jr_istore_n (lv' := [(2, .int (0 : Int32)), (0, .ref (ad 0)), (1, .int l1)]) C dMo_best_18 rfl (by decide) rfl ?_
    have lp24 : ∀ (n : Nat) (st : jS) (x1 : Int32) (x2 : Int32), wp_Mo_best_19 post n st x1 x2 → jr_J p l e (headSpec wMo_best ({ frames := 4, cells := 0, slots := 0, locals := 99 })).room s m args below meth c A D kC 6 0 0 (MQ below (va_Qi post (jr_B D kC (kT cI cII cL cJ) (mW cI ad fr) A) A) args s 0 0 A) (mW cI ad fr st) 19 [(0, .ref (ad 0)), (1, .int x1), (2, .int x2)] [] := by
      intro n
      induction n with
      | zero => intro st x1 x2 h; exact h.elim
      | succ n ih =>
        intro st x1 x2 h
        unfold wp_Mo_best_19 at h
        refine jr_iload_n (q := 2) C dMo_best_19 rfl rfl ?_
        refine jr_aload_n (q := 0) C dMo_best_20 rfl rfl ?_
        refine jr_getf (k := 2) C dMo_best_21 inw_Mo (rfl : kC[5]? = _) (by decide) (List.mem_cons_of_mem _ tm3_131) rfl mA_0 rfl ?_
        refine jr_icmp_ge (tgt := 121) C dMo_best_24 (by decide) (fun z => ?_) (fun z => ?_)
        · have h := h.1 z
          refine jr_iconst (v := 0) C dMo_best_121 (by decide) ?_
          exact jr_reti C hr hlocks dMo_best_122 h rfl
        · have h := h.2 z
          refine jr_aload_n (q := 0) C dMo_best_27 rfl rfl ?_
          refine jr_getf (k := 0) C dMo_best_28 inw_Mo (rfl : kC[5]? = _) (by decide) (List.mem_cons_of_mem _ tm3_129) rfl mA_0 rfl ?_
          refine jr_if_ne (tgt := 121) C dMo_best_31 (by decide) (fun z => ?_) (fun z => ?_)
          · have h := h.1 z
            refine jr_iconst (v := 0) C dMo_best_121 (by decide) ?_
            exact jr_reti C hr hlocks dMo_best_122 h rfl
          · have h := h.2 z
            refine jr_iconst (v := 0) C dMo_best_34 (by decide) ?_
            refine jr_istore_n (lv' := [(3, .int (0 : Int32)), (0, .ref (ad 0)), (1, .int x1), (2, .int x2)]) C dMo_best_35 rfl (by decide) rfl ?_
            refine jr_iconst (v := 0) C dMo_best_36 (by decide) ?_
            refine jr_istore (lv' := [(4, .int (0 : Int32)), (3, .int (0 : Int32)), (0, .ref (ad 0)), (1, .int x1), (2, .int x2)]) C dMo_best_37 (by decide) rfl ?_
            have lp16 : ∀ (kont : jS → Int32 → Int32 → Int32 → Int32 → Prop) (hk : ∀ (st : jS) (x1 : Int32) (x2 : Int32) (x3 : Int32) (x4 : Int32), kont st x1 x2 x3 x4 → jr_J p l e (headSpec wMo_best ({ frames := 4, cells := 0, slots := 0, locals := 99 })).room s m args below meth c A D kC 6 0 0 (MQ below (va_Qi post (jr_B D kC (kT cI cII cL cJ) (mW cI ad fr) A) A) args s 0 0 A) (mW cI ad fr st) 108 [(0, .ref (ad 0)), (1, .int x1), (2, .int x2), (3, .int x3), (4, .int x4)] []) (n : Nat) (st : jS) (x1 : Int32) (x2 : Int32) (x3 : Int32) (x4 : Int32), wp_Mo_best_39 post kont n st x1 x2 x3 x4 → jr_J p l e (headSpec wMo_best ({ frames := 4, cells := 0, slots := 0, locals := 99 })).room s m args below meth c A D kC 6 0 0 (MQ below (va_Qi post (jr_B D kC (kT cI cII cL cJ) (mW cI ad fr) A) A) args s 0 0 A) (mW cI ad fr st) 39 [(0, .ref (ad 0)), (1, .int x1), (2, .int x2), (3, .int x3), (4, .int x4)] [] := by
              intro kont hk n
              induction n with
              | zero => intro st x1 x2 x3 x4 h; exact h.elim
              | succ n ih =>
                intro st x1 x2 x3 x4 h
                unfold wp_Mo_best_39 at h
                refine jr_iload (q := 4) C dMo_best_39 rfl ?_
                refine jr_aload_n (q := 0) C dMo_best_41 rfl rfl ?_
                refine jr_getf (k := 2) C dMo_best_42 inw_Mo (rfl : kC[5]? = _) (by decide) (List.mem_cons_of_mem _ tm3_131) rfl mA_0 rfl ?_
                refine jr_icmp_ge (tgt := 108) C dMo_best_45 (by decide) (fun z => ?_) (fun z => ?_)
                · have h := h.1 z
                  refine jr_lv (lv' := [(0, .ref (ad 0)), (1, .int x1), (2, .int x2), (3, .int x3), (4, .int x4)]) [0, 1, 2, 3, 4] rfl ?_
                  exact hk st x1 x2 x3 x4 h
                · have h := h.2 z
                  refine jr_aload_n (q := 0) C dMo_best_48 rfl rfl ?_
                  refine jr_iload (q := 4) C dMo_best_49 rfl ?_
                  refine jr_callVi (As := [.int x4]) (rest := []) C (c_Mo_rightOf h) (cwV 1 C.2.2.2.2.1 (tg_V tm4_22 tm4_24 tp_24 tm1_7 tm4_25) rfl rfl rfl ⟨rfl, by decide, by decide, by decide⟩ ⟨Nat.le_of_ble_eq_true rfl, Nat.le_of_ble_eq_true rfl⟩) dMo_best_51 (rfl : kC[5]? = _) mA_0 rfl rfl (Nat.le_of_ble_eq_true rfl) ⟨Nat.le_of_ble_eq_true rfl, Nat.le_of_ble_eq_true rfl⟩ (fun r6 st5 h => ?_)
                  refine jr_aload_n (q := 0) C dMo_best_54 rfl rfl ?_
                  refine jr_iload_n (q := 2) C dMo_best_55 rfl rfl ?_
                  refine jr_callVi (As := [.int x2]) (rest := [.int r6]) C (c_Mo_rightOf h) (cwV 1 C.2.2.2.2.1 (tg_V tm4_22 tm4_24 tp_24 tm1_7 tm4_25) rfl rfl rfl ⟨rfl, by decide, by decide, by decide⟩ ⟨Nat.le_of_ble_eq_true rfl, Nat.le_of_ble_eq_true rfl⟩) dMo_best_56 (rfl : kC[5]? = _) mA_0 rfl rfl (Nat.le_of_ble_eq_true rfl) ⟨Nat.le_of_ble_eq_true rfl, Nat.le_of_ble_eq_true rfl⟩ (fun r8 st7 h => ?_)
                  obtain ⟨j9, j9r, h⟩ := h
                  have hj9 : ∀ (st14 : jS) (v15 : Int32), j9 st14 v15 → jr_J p l e (headSpec wMo_best ({ frames := 4, cells := 0, slots := 0, locals := 99 })).room s m args below meth c A D kC 6 0 0 (MQ below (va_Qi post (jr_B D kC (kT cI cII cL cJ) (mW cI ad fr) A) A) args s 0 0 A) (mW cI ad fr st14) 87 [(0, .ref (ad 0)), (1, .int x1), (2, .int x2), (3, .int x3), (4, .int x4)] [.int v15] := by
                    intro st14 v15 h
                    have h := j9r st14 v15 h
                    refine jr_istore (lv' := [(5, .int v15), (0, .ref (ad 0)), (1, .int x1), (2, .int x2), (3, .int x3), (4, .int x4)]) C dMo_best_87 (by decide) rfl ?_
                    refine jr_iload (q := 0) C dMo_best_89 rfl ?_
                    refine jr_if_eq (tgt := 100) C dMo_best_91 (by decide) (fun z => ?_) (fun z => ?_)
                    · have h := h.1 z
                      refine jr_iload_n (q := 4) C dMo_best_100 rfl rfl ?_
                      refine jr_istore_n (lv' := [(3, .int x3), (5, .int v15), (0, .ref (ad 0)), (1, .int x1), (2, .int x2), (4, .int x4)]) C dMo_best_101 rfl (by decide) rfl ?_
                      refine jr_iinc (q := 5) (v := (x4 + (1 : Int32))) (lv' := [(4, .int (x4 + (1 : Int32))), (3, .int x3), (5, .int v15), (0, .ref (ad 0)), (1, .int x1), (2, .int x2)]) C dMo_best_102 rfl rfl (by decide) rfl ?_
                      refine jr_goto (tgt := 39) C dMo_best_105 (by decide) ?_
                      refine jr_lv (lv' := [(0, .ref (ad 0)), (1, .int x1), (2, .int x2), (3, .int x3), (4, .int (x4 + (1 : Int32)))]) [3, 4, 5, 1, 0] rfl ?_
                      exact ih st14 x1 x2 x3 (x4 + (1 : Int32)) h
                    · have h := h.2 z
                      refine jr_iload_n (q := 4) C dMo_best_94 rfl rfl ?_
                      refine jr_iconst (v := 1) C dMo_best_95 (by decide) ?_
                      refine jr_iadd C dMo_best_96 ?_
                      refine jr_goto (tgt := 101) C dMo_best_97 (by decide) ?_
                      refine jr_istore_n (lv' := [(3, .int (x3 + (1 : Int32))), (5, .int v15), (0, .ref (ad 0)), (1, .int x1), (2, .int x2), (4, .int x4)]) C dMo_best_101 rfl (by decide) rfl ?_
                      refine jr_iinc (q := 5) (v := (x4 + (1 : Int32))) (lv' := [(4, .int (x4 + (1 : Int32))), (3, .int (x3 + (1 : Int32))), (5, .int v15), (0, .ref (ad 0)), (1, .int x1), (2, .int x2)]) C dMo_best_102 rfl rfl (by decide) rfl ?_
                      refine jr_goto (tgt := 39) C dMo_best_105 (by decide) ?_
                      refine jr_lv (lv' := [(0, .ref (ad 0)), (1, .int x1), (2, .int x2), (3, .int (x3 + (1 : Int32))), (4, .int (x4 + (1 : Int32)))]) [3, 4, 5, 1, 0] rfl ?_
                      exact ih st14 x1 x2 (x3 + (1 : Int32)) (x4 + (1 : Int32)) h
                  refine jr_icmp_gt (tgt := 82) C dMo_best_59 (by decide) (fun z => ?_) (fun z => ?_)
                  · have h := h.1 z
                    refine jr_iconst (v := 1) C dMo_best_82 (by decide) ?_
                    refine jr_goto (tgt := 87) C dMo_best_83 (by decide) ?_
                    refine jr_lv (lv' := [(0, .ref (ad 0)), (1, .int x1), (2, .int x2), (3, .int x3), (4, .int x4)]) [0, 1, 2, 3, 4] rfl ?_
                    exact hj9 st7 (1 : Int32) h
                  · have h := h.2 z
                    refine jr_aload_n (q := 0) C dMo_best_62 rfl rfl ?_
                    refine jr_iload (q := 4) C dMo_best_63 rfl ?_
                    refine jr_callVi (As := [.int x4]) (rest := []) C (c_Mo_rightOf h) (cwV 1 C.2.2.2.2.1 (tg_V tm4_22 tm4_24 tp_24 tm1_7 tm4_25) rfl rfl rfl ⟨rfl, by decide, by decide, by decide⟩ ⟨Nat.le_of_ble_eq_true rfl, Nat.le_of_ble_eq_true rfl⟩) dMo_best_65 (rfl : kC[5]? = _) mA_0 rfl rfl (Nat.le_of_ble_eq_true rfl) ⟨Nat.le_of_ble_eq_true rfl, Nat.le_of_ble_eq_true rfl⟩ (fun r11 st10 h => ?_)
                    refine jr_aload_n (q := 0) C dMo_best_68 rfl rfl ?_
                    refine jr_iload_n (q := 2) C dMo_best_69 rfl rfl ?_
                    refine jr_callVi (As := [.int x2]) (rest := [.int r11]) C (c_Mo_rightOf h) (cwV 1 C.2.2.2.2.1 (tg_V tm4_22 tm4_24 tp_24 tm1_7 tm4_25) rfl rfl rfl ⟨rfl, by decide, by decide, by decide⟩ ⟨Nat.le_of_ble_eq_true rfl, Nat.le_of_ble_eq_true rfl⟩) dMo_best_70 (rfl : kC[5]? = _) mA_0 rfl rfl (Nat.le_of_ble_eq_true rfl) ⟨Nat.le_of_ble_eq_true rfl, Nat.le_of_ble_eq_true rfl⟩ (fun r13 st12 h => ?_)
                    refine jr_icmp_ne (tgt := 86) C dMo_best_73 (by decide) (fun z => ?_) (fun z => ?_)
                    · have h := h.1 z
                      refine jr_iconst (v := 0) C dMo_best_86 (by decide) ?_
                      refine jr_lv (lv' := [(0, .ref (ad 0)), (1, .int x1), (2, .int x2), (3, .int x3), (4, .int x4)]) [0, 1, 2, 3, 4] rfl ?_
                      exact hj9 st12 (0 : Int32) h
                    · have h := h.2 z
                      refine jr_iload (q := 4) C dMo_best_76 rfl ?_
                      refine jr_iload_n (q := 2) C dMo_best_78 rfl rfl ?_
                      refine jr_icmp_ge (tgt := 86) C dMo_best_79 (by decide) (fun z => ?_) (fun z => ?_)
                      · have h := h.1 z
                        refine jr_iconst (v := 0) C dMo_best_86 (by decide) ?_
                        refine jr_lv (lv' := [(0, .ref (ad 0)), (1, .int x1), (2, .int x2), (3, .int x3), (4, .int x4)]) [0, 1, 2, 3, 4] rfl ?_
                        exact hj9 st12 (0 : Int32) h
                      · have h := h.2 z
                        refine jr_iconst (v := 1) C dMo_best_82 (by decide) ?_
                        refine jr_goto (tgt := 87) C dMo_best_83 (by decide) ?_
                        refine jr_lv (lv' := [(0, .ref (ad 0)), (1, .int x1), (2, .int x2), (3, .int x3), (4, .int x4)]) [0, 1, 2, 3, 4] rfl ?_
                        exact hj9 st12 (1 : Int32) h
            obtain ⟨n17, h⟩ := h
            refine jr_lv (lv' := [(0, .ref (ad 0)), (1, .int x1), (2, .int x2), (3, .int (0 : Int32)), (4, .int (0 : Int32))]) [2, 3, 4, 1, 0] rfl ?_
            refine lp16 _ (fun st18 y19 y20 y21 y22 h => ?_) n17 st x1 x2 (0 : Int32) (0 : Int32) h
            refine jr_iload_n (q := 3) C dMo_best_108 rfl rfl ?_
            refine jr_iload_n (q := 1) C dMo_best_109 rfl rfl ?_
            refine jr_icmp_ne (tgt := 115) C dMo_best_110 (by decide) (fun z => ?_) (fun z => ?_)
            · have h := h.1 z
              refine jr_iinc (q := 2) (v := (y20 + (1 : Int32))) (lv' := [(2, .int (y20 + (1 : Int32))), (0, .ref (ad 0)), (1, .int y19), (3, .int y21), (4, .int y22)]) C dMo_best_115 rfl rfl (by decide) rfl ?_
              refine jr_goto (tgt := 19) C dMo_best_118 (by decide) ?_
              refine jr_lv (lv' := [(0, .ref (ad 0)), (1, .int y19), (2, .int (y20 + (1 : Int32)))]) [1, 2, 0] rfl ?_
              exact ih st18 y19 (y20 + (1 : Int32)) h
            · have h := h.2 z
              refine jr_iload_n (q := 2) C dMo_best_113 rfl rfl ?_
              exact jr_reti C hr hlocks dMo_best_114 h rfl
    obtain ⟨n25, h⟩ := h
    refine jr_lv (lv' := [(0, .ref (ad 0)), (1, .int l1), (2, .int (0 : Int32))]) [1, 2, 0] rfl ?_
    exact lp24 n25 (jq st1 0 0 v4) l1 (0 : Int32) h
  refine jr_if_ne (tgt := 13) C dMo_best_6 (by decide) (fun z => ?_) (fun z => ?_)
  · have h := h.1 z
    refine jr_iconst (v := 0) C dMo_best_13 (by decide) ?_
    refine jr_lv (lv' := [(0, .ref (ad 0)), (1, .int l1)]) [0, 1] rfl ?_
    exact hj3 (0 : Int32) h
  · have h := h.2 z
    refine jr_iconst (v := 1) C dMo_best_9 (by decide) ?_
    refine jr_goto (tgt := 14) C dMo_best_10 (by decide) ?_
    refine jr_lv (lv' := [(0, .ref (ad 0)), (1, .int l1)]) [0, 1] rfl ?_
    exact hj3 (1 : Int32) h
def wp_Mo_unknown_9 (post : Int32 → jS → Prop) : Nat → jS → Int32 → Int32 → Prop
  | 0 => fun _ _ _ => False
  | n + 1 => fun st x1 x2 => (((st 0 4) ≤ x2 → post x1 st) ∧ (¬ (st 0 4) ≤ x2 → wp_Mo_toldBy st x2 (0 : Int32) (st 0 2) (fun r2 st1 => ((¬ r2 = (-1 : Int32) → wp_Mo_unknown_9 post n st1 x1 (x2 + (1 : Int32))) ∧ (r2 = (-1 : Int32) → wp_Mo_unknown_9 post n st1 (x1 + (1 : Int32)) (x2 + (1 : Int32)))))))
def wp_Mo_unknown (st : jS) (post : Int32 → jS → Prop) : Prop :=
  (∃ n5, wp_Mo_unknown_9 post n5 (jq st 0 0 (0 : Int32)) (0 : Int32) (0 : Int32))
set_option maxRecDepth 100000 in
set_option maxHeartbeats 4000000 in
theorem c_Mo_unknown {st : jS} {post : Int32 → jS → Prop} (h : wp_Mo_unknown st post) : jr_Mi l yMo_unknown wMo_unknown ({ frames := 3, cells := 0, slots := 0, locals := 76 }) [.ref (ad 0)] D kC (kT cI cII cL cJ) (mW cI ad fr st) (mW cI ad fr) post := by
  refine jr_ofi (cc := bMo_unknown) (nL := 3) (lv := [(0, .ref (ad 0))]) (by decide) rfl (Nat.le_of_ble_eq_true rfl) rfl (fun p e s m args below meth c A C hr hlocks => ?_)
  unfold wp_Mo_unknown at h
  refine jr_aload_n (q := 0) C dMo_unknown_0 rfl rfl ?_
  refine jr_iconst (v := 0) C dMo_unknown_1 (by decide) ?_
  refine jr_putf (k := 0) C dMo_unknown_2 inw_Mo ty_Mo ty_Mo_ok nm_Mo (rfl : kC[5]? = _) (by decide) (List.mem_cons_of_mem _ tm3_129) rfl rfl (ty := .int) rfl rfl rfl mA_0 (Nat.le_of_ble_eq_true rfl) ?_
  refine jr_ws (ws' := mW cI ad fr (jq st 0 0 (0 : Int32))) (mP_0_0) ?_
  refine jr_iconst (v := 0) C dMo_unknown_5 (by decide) ?_
  refine jr_istore_n (lv' := [(1, .int (0 : Int32)), (0, .ref (ad 0))]) C dMo_unknown_6 rfl (by decide) rfl ?_
  refine jr_iconst (v := 0) C dMo_unknown_7 (by decide) ?_
  refine jr_istore_n (lv' := [(2, .int (0 : Int32)), (1, .int (0 : Int32)), (0, .ref (ad 0))]) C dMo_unknown_8 rfl (by decide) rfl ?_
  have lp3 : ∀ (n : Nat) (st : jS) (x1 : Int32) (x2 : Int32), wp_Mo_unknown_9 post n st x1 x2 → jr_J p l e (headSpec wMo_unknown ({ frames := 3, cells := 0, slots := 0, locals := 76 })).room s m args below meth c A D kC 3 0 0 (MQ below (va_Qi post (jr_B D kC (kT cI cII cL cJ) (mW cI ad fr) A) A) args s 0 0 A) (mW cI ad fr st) 9 [(0, .ref (ad 0)), (1, .int x1), (2, .int x2)] [] := by
    intro n
    induction n with
    | zero => intro st x1 x2 h; exact h.elim
    | succ n ih =>
      intro st x1 x2 h
      unfold wp_Mo_unknown_9 at h
      refine jr_iload_n (q := 2) C dMo_unknown_9 rfl rfl ?_
      refine jr_aload_n (q := 0) C dMo_unknown_10 rfl rfl ?_
      refine jr_getf (k := 4) C dMo_unknown_11 inw_Mo (rfl : kC[5]? = _) (by decide) (List.mem_cons_of_mem _ tm3_133) rfl mA_0 rfl ?_
      refine jr_icmp_ge (tgt := 45) C dMo_unknown_14 (by decide) (fun z => ?_) (fun z => ?_)
      · have h := h.1 z
        refine jr_iload_n (q := 1) C dMo_unknown_45 rfl rfl ?_
        exact jr_reti C hr hlocks dMo_unknown_46 h rfl
      · have h := h.2 z
        refine jr_aload_n (q := 0) C dMo_unknown_17 rfl rfl ?_
        refine jr_iload_n (q := 2) C dMo_unknown_18 rfl rfl ?_
        refine jr_iconst (v := 0) C dMo_unknown_19 (by decide) ?_
        refine jr_aload_n (q := 0) C dMo_unknown_20 rfl rfl ?_
        refine jr_getf (k := 2) C dMo_unknown_21 inw_Mo (rfl : kC[5]? = _) (by decide) (List.mem_cons_of_mem _ tm3_131) rfl mA_0 rfl ?_
        refine jr_callVi (As := [.int x2, .int (0 : Int32), .int (st 0 2)]) (rest := []) C (c_Mo_toldBy h) (cwV 3 C.2.2.2.2.1 (tg_V tm3_236 tm3_238 tp_23 tm1_7 tm3_239) rfl rfl rfl ⟨rfl, by decide, by decide, by decide⟩ ⟨Nat.le_of_ble_eq_true rfl, Nat.le_of_ble_eq_true rfl⟩) dMo_unknown_24 (rfl : kC[5]? = _) mA_0 rfl rfl (Nat.le_of_ble_eq_true rfl) ⟨Nat.le_of_ble_eq_true rfl, Nat.le_of_ble_eq_true rfl⟩ (fun r2 st1 h => ?_)
        refine jr_iconst (v := -1) C dMo_unknown_27 (by decide) ?_
        refine jr_icmp_ne (tgt := 37) C dMo_unknown_28 (by decide) (fun z => ?_) (fun z => ?_)
        · have h := h.1 z
          refine jr_iload_n (q := 1) C dMo_unknown_37 rfl rfl ?_
          refine jr_istore_n (lv' := [(1, .int x1), (0, .ref (ad 0)), (2, .int x2)]) C dMo_unknown_38 rfl (by decide) rfl ?_
          refine jr_iinc (q := 2) (v := (x2 + (1 : Int32))) (lv' := [(2, .int (x2 + (1 : Int32))), (1, .int x1), (0, .ref (ad 0))]) C dMo_unknown_39 rfl rfl (by decide) rfl ?_
          refine jr_goto (tgt := 9) C dMo_unknown_42 (by decide) ?_
          refine jr_lv (lv' := [(0, .ref (ad 0)), (1, .int x1), (2, .int (x2 + (1 : Int32)))]) [2, 1, 0] rfl ?_
          exact ih st1 x1 (x2 + (1 : Int32)) h
        · have h := h.2 z
          refine jr_iload_n (q := 1) C dMo_unknown_31 rfl rfl ?_
          refine jr_iconst (v := 1) C dMo_unknown_32 (by decide) ?_
          refine jr_iadd C dMo_unknown_33 ?_
          refine jr_goto (tgt := 38) C dMo_unknown_34 (by decide) ?_
          refine jr_istore_n (lv' := [(1, .int (x1 + (1 : Int32))), (0, .ref (ad 0)), (2, .int x2)]) C dMo_unknown_38 rfl (by decide) rfl ?_
          refine jr_iinc (q := 2) (v := (x2 + (1 : Int32))) (lv' := [(2, .int (x2 + (1 : Int32))), (1, .int (x1 + (1 : Int32))), (0, .ref (ad 0))]) C dMo_unknown_39 rfl rfl (by decide) rfl ?_
          refine jr_goto (tgt := 9) C dMo_unknown_42 (by decide) ?_
          refine jr_lv (lv' := [(0, .ref (ad 0)), (1, .int (x1 + (1 : Int32))), (2, .int (x2 + (1 : Int32)))]) [2, 1, 0] rfl ?_
          exact ih st1 (x1 + (1 : Int32)) (x2 + (1 : Int32)) h
  obtain ⟨n4, h⟩ := h
  refine jr_lv (lv' := [(0, .ref (ad 0)), (1, .int (0 : Int32)), (2, .int (0 : Int32))]) [2, 1, 0] rfl ?_
  exact lp3 n4 (jq st 0 0 (0 : Int32)) (0 : Int32) (0 : Int32) h
def wp_Mo_mixed_43 (post : Int32 → jS → Prop) : Nat → jS → Int32 → Int32 → Int32 → Int32 → Int32 → Prop
  | 0 => fun _ _ _ _ _ _ => False
  | n + 1 => fun st x1 x2 x3 x4 x5 => (((st 0 4) ≤ x5 → wp_Mo_part st (Int32.toInt64 x3) (Int32.toInt64 x4) x2 (fun r9 st8 => post (Int64.toInt32 r9) st8)) ∧ (¬ (st 0 4) ≤ x5 → vp_in x5 24 ∧ (∃ j11 : jS → Int32 → Prop, (∀ (st14 : jS) (v15 : Int32), j11 st14 v15 → (∃ j16 : Int32 → Prop, (∀ (v17 : Int32), j16 v17 → ((v15 = (-1 : Int32) → wp_Mo_mixed_43 post n st14 x1 x2 v17 x4 (x5 + (1 : Int32))) ∧ (¬ v15 = (-1 : Int32) → wp_Mo_mixed_43 post n st14 x1 x2 v17 (x4 + (1 : Int32)) (x5 + (1 : Int32))))) ∧ ((¬ v15 = x1 → j16 x3) ∧ (v15 = x1 → j16 (x3 + (1 : Int32)))))) ∧ ((¬ (st 2 (Int32.toNatClampNeg x5)) = (-1 : Int32) → j11 st (-1 : Int32)) ∧ ((st 2 (Int32.toNatClampNeg x5)) = (-1 : Int32) → wp_Mo_toldBy st x5 (0 : Int32) (st 0 2) (fun r13 st12 => j11 st12 r13))))))
def wp_Mo_mixed (st : jS) (l1 : Int32) (l2 : Int32) (post : Int32 → jS → Prop) : Prop :=
  wp_Mo_isKind st l1 (fun r2 st1 => (∃ j3 : jS → Int32 → Prop, (∀ (st6 : jS) (v7 : Int32), j3 st6 v7 → ((((jq st6 0 0 v7) 0 0) ≤ 0 → (∃ n20, wp_Mo_mixed_43 post n20 (jq st6 0 0 v7) l1 l2 (0 : Int32) (0 : Int32) (0 : Int32))) ∧ (¬ ((jq st6 0 0 v7) 0 0) ≤ 0 → post (0 : Int32) (jq st6 0 0 v7)))) ∧ ((r2 = 0 → j3 st1 (1 : Int32)) ∧ (¬ r2 = 0 → wp_Mo_isIn st1 l2 (0 : Int32) (1 : Int32) (fun r5 st4 => ((¬ r5 = 0 → j3 st4 (0 : Int32)) ∧ (r5 = 0 → j3 st4 (1 : Int32))))))))
set_option maxRecDepth 100000 in
set_option maxHeartbeats 4000000 in
theorem c_Mo_mixed {st : jS} {l1 : Int32} {l2 : Int32} {post : Int32 → jS → Prop} (h : wp_Mo_mixed st l1 l2 post) : jr_Mi l yMo_mixed wMo_mixed ({ frames := 3, cells := 0, slots := 0, locals := 76 }) [.ref (ad 0), .int l1, .int l2] D kC (kT cI cII cL cJ) (mW cI ad fr st) (mW cI ad fr) post := by
  refine jr_ofi (cc := bMo_mixed) (nL := 7) (lv := [(0, .ref (ad 0)), (1, .int l1), (2, .int l2)]) (by decide) rfl (Nat.le_of_ble_eq_true rfl) rfl (fun p e s m args below meth c A C hr hlocks => ?_)
  unfold wp_Mo_mixed at h
  refine jr_aload_n (q := 0) C dMo_mixed_0 rfl rfl ?_
  refine jr_aload_n (q := 0) C dMo_mixed_1 rfl rfl ?_
  refine jr_iload_n (q := 1) C dMo_mixed_2 rfl rfl ?_
  refine jr_callVi (As := [.int l1]) (rest := [.ref (ad 0)]) C (c_Mo_isKind h) (cwV 1 C.2.2.2.2.1 (tg_V tm3_189 tm3_191 tp_18 tm1_7 tm3_192) rfl rfl rfl ⟨rfl, by decide, by decide, by decide⟩ ⟨Nat.le_of_ble_eq_true rfl, Nat.le_of_ble_eq_true rfl⟩) dMo_mixed_3 (rfl : kC[5]? = _) mA_0 rfl rfl (Nat.le_of_ble_eq_true rfl) ⟨Nat.le_of_ble_eq_true rfl, Nat.le_of_ble_eq_true rfl⟩ (fun r2 st1 h => ?_)
  obtain ⟨j3, j3r, h⟩ := h
  have hj3 : ∀ (st6 : jS) (v7 : Int32), j3 st6 v7 → jr_J p l e (headSpec wMo_mixed ({ frames := 3, cells := 0, slots := 0, locals := 76 })).room s m args below meth c A D kC 7 0 0 (MQ below (va_Qi post (jr_B D kC (kT cI cII cL cJ) (mW cI ad fr) A) A) args s 0 0 A) (mW cI ad fr st6) 23 [(0, .ref (ad 0)), (1, .int l1), (2, .int l2)] [.int v7, .ref (ad 0)] := by
    intro st6 v7 h
    have h := j3r st6 v7 h
    refine jr_putf (k := 0) C dMo_mixed_23 inw_Mo ty_Mo ty_Mo_ok nm_Mo (rfl : kC[5]? = _) (by decide) (List.mem_cons_of_mem _ tm3_129) rfl rfl (ty := .int) rfl rfl rfl mA_0 (Nat.le_of_ble_eq_true rfl) ?_
    refine jr_ws (ws' := mW cI ad fr (jq st6 0 0 v7)) (mP_0_0) ?_
    refine jr_aload_n (q := 0) C dMo_mixed_26 rfl rfl ?_
    refine jr_getf (k := 0) C dMo_mixed_27 inw_Mo (rfl : kC[5]? = _) (by decide) (List.mem_cons_of_mem _ tm3_129) rfl mA_0 rfl ?_
    refine jr_if_le (tgt := 35) C dMo_mixed_30 (by decide) (fun z => ?_) (fun z => ?_)
    · have h := h.1 z
      refine jr_iconst (v := 0) C dMo_mixed_35 (by decide) ?_
      refine jr_istore_n (lv' := [(3, .int (0 : Int32)), (0, .ref (ad 0)), (1, .int l1), (2, .int l2)]) C dMo_mixed_36 rfl (by decide) rfl ?_
      refine jr_iconst (v := 0) C dMo_mixed_37 (by decide) ?_
      refine jr_istore (lv' := [(4, .int (0 : Int32)), (3, .int (0 : Int32)), (0, .ref (ad 0)), (1, .int l1), (2, .int l2)]) C dMo_mixed_38 (by decide) rfl ?_
      refine jr_iconst (v := 0) C dMo_mixed_40 (by decide) ?_
      refine jr_istore (lv' := [(5, .int (0 : Int32)), (4, .int (0 : Int32)), (3, .int (0 : Int32)), (0, .ref (ad 0)), (1, .int l1), (2, .int l2)]) C dMo_mixed_41 (by decide) rfl ?_
      have lp18 : ∀ (n : Nat) (st : jS) (x1 : Int32) (x2 : Int32) (x3 : Int32) (x4 : Int32) (x5 : Int32), wp_Mo_mixed_43 post n st x1 x2 x3 x4 x5 → jr_J p l e (headSpec wMo_mixed ({ frames := 3, cells := 0, slots := 0, locals := 76 })).room s m args below meth c A D kC 7 0 0 (MQ below (va_Qi post (jr_B D kC (kT cI cII cL cJ) (mW cI ad fr) A) A) args s 0 0 A) (mW cI ad fr st) 43 [(0, .ref (ad 0)), (1, .int x1), (2, .int x2), (3, .int x3), (4, .int x4), (5, .int x5)] [] := by
        intro n
        induction n with
        | zero => intro st x1 x2 x3 x4 x5 h; exact h.elim
        | succ n ih =>
          intro st x1 x2 x3 x4 x5 h
          unfold wp_Mo_mixed_43 at h
          refine jr_iload (q := 5) C dMo_mixed_43 rfl ?_
          refine jr_aload_n (q := 0) C dMo_mixed_45 rfl rfl ?_
          refine jr_getf (k := 4) C dMo_mixed_46 inw_Mo (rfl : kC[5]? = _) (by decide) (List.mem_cons_of_mem _ tm3_133) rfl mA_0 rfl ?_
          refine jr_icmp_ge (tgt := 117) C dMo_mixed_49 (by decide) (fun z => ?_) (fun z => ?_)
          · have h := h.1 z
            refine jr_iload_n (q := 3) C dMo_mixed_117 rfl rfl ?_
            refine jr_i2l C dMo_mixed_118 ?_
            refine jr_iload (q := 4) C dMo_mixed_119 rfl ?_
            refine jr_i2l C dMo_mixed_121 ?_
            refine jr_iload_n (q := 2) C dMo_mixed_122 rfl rfl ?_
            refine jr_callSl (As := [.long (Int32.toInt64 x3), .long (Int32.toInt64 x4), .int x2]) (rest := []) C (c_Mo_part h) (va_cwS 3 C.2.2.2.2.1 (tg_S tm4_12 tm4_13 tm1_7 tm4_14) rfl rfl rfl ⟨by decide, by decide, by decide⟩ ⟨Nat.le_of_ble_eq_true rfl, Nat.le_of_ble_eq_true rfl⟩) dMo_mixed_123 rfl rfl (Nat.le_of_ble_eq_true rfl) ⟨Nat.le_of_ble_eq_true rfl, Nat.le_of_ble_eq_true rfl⟩ (fun r9 st8 h => ?_)
            refine jr_l2i C dMo_mixed_126 ?_
            exact jr_reti C hr hlocks dMo_mixed_127 h rfl
          · have h := h.2 z
            refine jr_aload_n (q := 0) C dMo_mixed_52 rfl rfl ?_
            refine jr_getf (k := 5) C dMo_mixed_53 inw_Mo (rfl : kC[5]? = _) (by decide) (List.mem_cons_of_mem _ tm3_134) rfl mA_0 rfl ?_
            refine jr_iload (q := 5) C dMo_mixed_56 rfl ?_
            obtain ⟨h10, h⟩ := h
            refine jr_iald (t0 := 0) C dMo_mixed_58 mA_2 rfl h10 ?_
            refine jr_iconst (v := -1) C dMo_mixed_59 (by decide) ?_
            obtain ⟨j11, j11r, h⟩ := h
            have hj11 : ∀ (st14 : jS) (v15 : Int32), j11 st14 v15 → jr_J p l e (headSpec wMo_mixed ({ frames := 3, cells := 0, slots := 0, locals := 76 })).room s m args below meth c A D kC 7 0 0 (MQ below (va_Qi post (jr_B D kC (kT cI cII cL cJ) (mW cI ad fr) A) A) args s 0 0 A) (mW cI ad fr st14) 78 [(0, .ref (ad 0)), (1, .int x1), (2, .int x2), (3, .int x3), (4, .int x4), (5, .int x5)] [.int v15] := by
              intro st14 v15 h
              have h := j11r st14 v15 h
              refine jr_istore (lv' := [(6, .int v15), (0, .ref (ad 0)), (1, .int x1), (2, .int x2), (3, .int x3), (4, .int x4), (5, .int x5)]) C dMo_mixed_78 (by decide) rfl ?_
              refine jr_iload (q := 0) C dMo_mixed_80 rfl ?_
              refine jr_iload_n (q := 2) C dMo_mixed_82 rfl rfl ?_
              obtain ⟨j16, j16r, h⟩ := h
              have hj16 : ∀ (v17 : Int32), j16 v17 → jr_J p l e (headSpec wMo_mixed ({ frames := 3, cells := 0, slots := 0, locals := 76 })).room s m args below meth c A D kC 7 0 0 (MQ below (va_Qi post (jr_B D kC (kT cI cII cL cJ) (mW cI ad fr) A) A) args s 0 0 A) (mW cI ad fr st14) 93 [(0, .ref (ad 0)), (1, .int x1), (2, .int x2), (3, .int x3), (4, .int x4), (5, .int x5), (6, .int v15)] [.int v17] := by
                intro v17 h
                have h := j16r v17 h
                refine jr_istore_n (lv' := [(3, .int v17), (0, .ref (ad 0)), (1, .int x1), (2, .int x2), (4, .int x4), (5, .int x5), (6, .int v15)]) C dMo_mixed_93 rfl (by decide) rfl ?_
                refine jr_iload (q := 6) C dMo_mixed_94 rfl ?_
                refine jr_iconst (v := -1) C dMo_mixed_96 (by decide) ?_
                refine jr_icmp_eq (tgt := 107) C dMo_mixed_97 (by decide) (fun z => ?_) (fun z => ?_)
                · have h := h.1 z
                  refine jr_iload (q := 4) C dMo_mixed_107 rfl ?_
                  refine jr_istore (lv' := [(4, .int x4), (3, .int v17), (0, .ref (ad 0)), (1, .int x1), (2, .int x2), (5, .int x5), (6, .int v15)]) C dMo_mixed_109 (by decide) rfl ?_
                  refine jr_iinc (q := 5) (v := (x5 + (1 : Int32))) (lv' := [(5, .int (x5 + (1 : Int32))), (4, .int x4), (3, .int v17), (0, .ref (ad 0)), (1, .int x1), (2, .int x2), (6, .int v15)]) C dMo_mixed_111 rfl rfl (by decide) rfl ?_
                  refine jr_goto (tgt := 43) C dMo_mixed_114 (by decide) ?_
                  refine jr_lv (lv' := [(0, .ref (ad 0)), (1, .int x1), (2, .int x2), (3, .int v17), (4, .int x4), (5, .int (x5 + (1 : Int32)))]) [3, 4, 5, 2, 1, 0] rfl ?_
                  exact ih st14 x1 x2 v17 x4 (x5 + (1 : Int32)) h
                · have h := h.2 z
                  refine jr_iload (q := 4) C dMo_mixed_100 rfl ?_
                  refine jr_iconst (v := 1) C dMo_mixed_102 (by decide) ?_
                  refine jr_iadd C dMo_mixed_103 ?_
                  refine jr_goto (tgt := 109) C dMo_mixed_104 (by decide) ?_
                  refine jr_istore (lv' := [(4, .int (x4 + (1 : Int32))), (3, .int v17), (0, .ref (ad 0)), (1, .int x1), (2, .int x2), (5, .int x5), (6, .int v15)]) C dMo_mixed_109 (by decide) rfl ?_
                  refine jr_iinc (q := 5) (v := (x5 + (1 : Int32))) (lv' := [(5, .int (x5 + (1 : Int32))), (4, .int (x4 + (1 : Int32))), (3, .int v17), (0, .ref (ad 0)), (1, .int x1), (2, .int x2), (6, .int v15)]) C dMo_mixed_111 rfl rfl (by decide) rfl ?_
                  refine jr_goto (tgt := 43) C dMo_mixed_114 (by decide) ?_
                  refine jr_lv (lv' := [(0, .ref (ad 0)), (1, .int x1), (2, .int x2), (3, .int v17), (4, .int (x4 + (1 : Int32))), (5, .int (x5 + (1 : Int32)))]) [3, 4, 5, 2, 1, 0] rfl ?_
                  exact ih st14 x1 x2 v17 (x4 + (1 : Int32)) (x5 + (1 : Int32)) h
              refine jr_icmp_ne (tgt := 92) C dMo_mixed_83 (by decide) (fun z => ?_) (fun z => ?_)
              · have h := h.1 z
                refine jr_iload_n (q := 4) C dMo_mixed_92 rfl rfl ?_
                refine jr_lv (lv' := [(0, .ref (ad 0)), (1, .int x1), (2, .int x2), (3, .int x3), (4, .int x4), (5, .int x5), (6, .int v15)]) [1, 2, 3, 4, 5, 6, 0] rfl ?_
                exact hj16 x3 h
              · have h := h.2 z
                refine jr_iload_n (q := 4) C dMo_mixed_86 rfl rfl ?_
                refine jr_iconst (v := 1) C dMo_mixed_87 (by decide) ?_
                refine jr_iadd C dMo_mixed_88 ?_
                refine jr_goto (tgt := 93) C dMo_mixed_89 (by decide) ?_
                refine jr_lv (lv' := [(0, .ref (ad 0)), (1, .int x1), (2, .int x2), (3, .int x3), (4, .int x4), (5, .int x5), (6, .int v15)]) [1, 2, 3, 4, 5, 6, 0] rfl ?_
                exact hj16 (x3 + (1 : Int32)) h
            refine jr_icmp_ne (tgt := 77) C dMo_mixed_60 (by decide) (fun z => ?_) (fun z => ?_)
            · have h := h.1 z
              refine jr_iconst (v := -1) C dMo_mixed_77 (by decide) ?_
              refine jr_lv (lv' := [(0, .ref (ad 0)), (1, .int x1), (2, .int x2), (3, .int x3), (4, .int x4), (5, .int x5)]) [0, 1, 2, 3, 4, 5] rfl ?_
              exact hj11 st (-1 : Int32) h
            · have h := h.2 z
              refine jr_aload_n (q := 0) C dMo_mixed_63 rfl rfl ?_
              refine jr_iload (q := 5) C dMo_mixed_64 rfl ?_
              refine jr_iconst (v := 0) C dMo_mixed_66 (by decide) ?_
              refine jr_aload_n (q := 0) C dMo_mixed_67 rfl rfl ?_
              refine jr_getf (k := 2) C dMo_mixed_68 inw_Mo (rfl : kC[5]? = _) (by decide) (List.mem_cons_of_mem _ tm3_131) rfl mA_0 rfl ?_
              refine jr_callVi (As := [.int x5, .int (0 : Int32), .int (st 0 2)]) (rest := []) C (c_Mo_toldBy h) (cwV 3 C.2.2.2.2.1 (tg_V tm3_236 tm3_238 tp_23 tm1_7 tm3_239) rfl rfl rfl ⟨rfl, by decide, by decide, by decide⟩ ⟨Nat.le_of_ble_eq_true rfl, Nat.le_of_ble_eq_true rfl⟩) dMo_mixed_71 (rfl : kC[5]? = _) mA_0 rfl rfl (Nat.le_of_ble_eq_true rfl) ⟨Nat.le_of_ble_eq_true rfl, Nat.le_of_ble_eq_true rfl⟩ (fun r13 st12 h => ?_)
              refine jr_goto (tgt := 78) C dMo_mixed_74 (by decide) ?_
              refine jr_lv (lv' := [(0, .ref (ad 0)), (1, .int x1), (2, .int x2), (3, .int x3), (4, .int x4), (5, .int x5)]) [0, 1, 2, 3, 4, 5] rfl ?_
              exact hj11 st12 r13 h
      obtain ⟨n19, h⟩ := h
      refine jr_lv (lv' := [(0, .ref (ad 0)), (1, .int l1), (2, .int l2), (3, .int (0 : Int32)), (4, .int (0 : Int32)), (5, .int (0 : Int32))]) [3, 4, 5, 2, 1, 0] rfl ?_
      exact lp18 n19 (jq st6 0 0 v7) l1 l2 (0 : Int32) (0 : Int32) (0 : Int32) h
    · have h := h.2 z
      refine jr_iconst (v := 0) C dMo_mixed_33 (by decide) ?_
      exact jr_reti C hr hlocks dMo_mixed_34 h rfl
  refine jr_if_eq (tgt := 18) C dMo_mixed_6 (by decide) (fun z => ?_) (fun z => ?_)
  · have h := h.1 z
    refine jr_iconst (v := 1) C dMo_mixed_18 (by decide) ?_
    refine jr_goto (tgt := 23) C dMo_mixed_19 (by decide) ?_
    refine jr_lv (lv' := [(0, .ref (ad 0)), (1, .int l1), (2, .int l2)]) [0, 1, 2] rfl ?_
    exact hj3 st1 (1 : Int32) h
  · have h := h.2 z
    refine jr_iload_n (q := 2) C dMo_mixed_9 rfl rfl ?_
    refine jr_iconst (v := 0) C dMo_mixed_10 (by decide) ?_
    refine jr_iconst (v := 1) C dMo_mixed_11 (by decide) ?_
    refine jr_callSi (As := [.int l2, .int (0 : Int32), .int (1 : Int32)]) (rest := [.ref (ad 0)]) C (c_Mo_isIn h) (va_cwS 3 C.2.2.2.2.1 (tg_S tm3_193 tm3_194 tm1_7 tm3_195) rfl rfl rfl ⟨by decide, by decide, by decide⟩ ⟨Nat.le_of_ble_eq_true rfl, Nat.le_of_ble_eq_true rfl⟩) dMo_mixed_12 rfl rfl (Nat.le_of_ble_eq_true rfl) ⟨Nat.le_of_ble_eq_true rfl, Nat.le_of_ble_eq_true rfl⟩ (fun r5 st4 h => ?_)
    refine jr_if_ne (tgt := 22) C dMo_mixed_15 (by decide) (fun z => ?_) (fun z => ?_)
    · have h := h.1 z
      refine jr_iconst (v := 0) C dMo_mixed_22 (by decide) ?_
      refine jr_lv (lv' := [(0, .ref (ad 0)), (1, .int l1), (2, .int l2)]) [0, 1, 2] rfl ?_
      exact hj3 st4 (0 : Int32) h
    · have h := h.2 z
      refine jr_iconst (v := 1) C dMo_mixed_18 (by decide) ?_
      refine jr_goto (tgt := 23) C dMo_mixed_19 (by decide) ?_
      refine jr_lv (lv' := [(0, .ref (ad 0)), (1, .int l1), (2, .int l2)]) [0, 1, 2] rfl ?_
      exact hj3 st4 (1 : Int32) h
end MO
