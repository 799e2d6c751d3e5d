section KT
variable {l : Launch} {D : va_G} {cI cII cL cJ : ClassId} {ad sa : Nat → Nat} {K F : Nat} {fr : va_W}
def wp_Ex_add (K F : Nat) (st : jS) (l1 : Int32) (post : Int32 → jS → Prop) : Prop :=
  vp_in (st 1 5) 24 ∧ post (((jq (jq st 6 (Int32.toNatClampNeg (st 1 5)) l1) 1 5 (((jq st 6 (Int32.toNatClampNeg (st 1 5)) l1) 1 5) + (1 : Int32))) 1 5) - (1 : Int32)) (jq (jq st 6 (Int32.toNatClampNeg (st 1 5)) l1) 1 5 (((jq st 6 (Int32.toNatClampNeg (st 1 5)) l1) 1 5) + (1 : Int32)))
set_option maxRecDepth 100000 in
set_option maxHeartbeats 4000000 in
theorem c_Ex_add {st : jS} {l1 : Int32} {post : Int32 → jS → Prop} (h : wp_Ex_add K F st l1 post) : jr_Mi l yEx_add wEx_add ({ frames := 0, cells := 0, slots := 0, locals := 0 }) [.ref (ad 1), .int l1] D kC (kT cI cII cL cJ) (kW cI cII cL ad K F fr st) (kW cI cII cL ad K F fr) post := by
  refine jr_ofi (cc := bEx_add) (nL := 2) (lv := [(0, .ref (ad 1)), (1, .int l1)]) (by decide) rfl (Nat.le_of_ble_eq_true rfl) rfl (fun p e s m args below meth c A C hr hlocks => ?_)
  unfold wp_Ex_add at h
  refine jr_aload_n (q := 0) C dEx_add_0 rfl rfl ?_
  refine jr_getf (k := 2) C dEx_add_1 inw_Ex (rfl : kC[1]? = _) (by decide) (List.mem_cons_of_mem _ tm1_40) rfl kA_1 rfl ?_
  refine jr_aload_n (q := 0) C dEx_add_4 rfl rfl ?_
  refine jr_getf (k := 5) C dEx_add_5 inw_Ex (rfl : kC[1]? = _) (by decide) (List.mem_cons_of_mem _ tm1_46) rfl kA_1 rfl ?_
  refine jr_iload_n (q := 1) C dEx_add_8 rfl rfl ?_
  obtain ⟨h1, h⟩ := h
  refine jr_iast (t0 := 0) C dEx_add_9 kA_6 rfl h1 ?_
  refine jr_ws (ws' := kW cI cII cL ad K F fr (jq st 6 (Int32.toNatClampNeg (st 1 5)) l1)) (kP_6) ?_
  refine jr_aload_n (q := 0) C dEx_add_10 rfl rfl ?_
  refine jr_dup C dEx_add_11 rfl ?_
  refine jr_getf (k := 5) C dEx_add_12 inw_Ex (rfl : kC[1]? = _) (by decide) (List.mem_cons_of_mem _ tm1_46) rfl kA_1 rfl ?_
  refine jr_iconst (v := 1) C dEx_add_15 (by decide) ?_
  refine jr_iadd C dEx_add_16 ?_
  refine jr_putf (k := 5) C dEx_add_17 inw_Ex ty_Ex ty_Ex_ok nm_Ex (rfl : kC[1]? = _) (by decide) (List.mem_cons_of_mem _ tm1_46) rfl rfl (ty := .int) rfl rfl rfl kA_1 (Nat.le_of_ble_eq_true rfl) ?_
  refine jr_ws (ws' := kW cI cII cL ad K F fr (jq (jq st 6 (Int32.toNatClampNeg (st 1 5)) l1) 1 5 (((jq st 6 (Int32.toNatClampNeg (st 1 5)) l1) 1 5) + (1 : Int32)))) (kP_1) ?_
  refine jr_aload_n (q := 0) C dEx_add_20 rfl rfl ?_
  refine jr_getf (k := 5) C dEx_add_21 inw_Ex (rfl : kC[1]? = _) (by decide) (List.mem_cons_of_mem _ tm1_46) rfl kA_1 rfl ?_
  refine jr_iconst (v := 1) C dEx_add_24 (by decide) ?_
  refine jr_isub C dEx_add_25 ?_
  exact jr_reti C hr hlocks dEx_add_26 h rfl
def wp_Ex_cellOf (K F : Nat) (st : jS) (l1 : Int32) (l2 : Int32) (post : Int32 → jS → Prop) : Prop :=
  vp_in l2 F ∧ (((1 : Int32) ≤ (st 7 (Int32.toNatClampNeg l2)) → vp_in l1 24 ∧ vp_in l2 F ∧ (¬ (st 7 (Int32.toNatClampNeg l2)) = 0) ∧ post ((st (15 + (Int32.toNatClampNeg l1)) (Int32.toNatClampNeg l2)) / (st 7 (Int32.toNatClampNeg l2))) st) ∧ (¬ (1 : Int32) ≤ (st 7 (Int32.toNatClampNeg l2)) → post (0 : Int32) st))
set_option maxRecDepth 100000 in
set_option maxHeartbeats 4000000 in
theorem c_Ex_cellOf {st : jS} {l1 : Int32} {l2 : Int32} {post : Int32 → jS → Prop} (h : wp_Ex_cellOf K F st l1 l2 post) : jr_Mi l yEx_cellOf wEx_cellOf ({ frames := 0, cells := 0, slots := 0, locals := 0 }) [.ref (ad 1), .int l1, .int l2] D kC (kT cI cII cL cJ) (kW cI cII cL ad K F fr st) (kW cI cII cL ad K F fr) post := by
  refine jr_ofi (cc := bEx_cellOf) (nL := 4) (lv := [(0, .ref (ad 1)), (1, .int l1), (2, .int l2)]) (by decide) rfl (Nat.le_of_ble_eq_true rfl) rfl (fun p e s m args below meth c A C hr hlocks => ?_)
  unfold wp_Ex_cellOf at h
  refine jr_aload_n (q := 0) C dEx_cellOf_0 rfl rfl ?_
  refine jr_getf (k := 3) C dEx_cellOf_1 inw_Ex (rfl : kC[1]? = _) (by decide) (List.mem_cons_of_mem _ tm1_43) rfl kA_1 rfl ?_
  refine jr_iload_n (q := 2) C dEx_cellOf_4 rfl rfl ?_
  obtain ⟨h1, h⟩ := h
  refine jr_iald (t0 := 0) C dEx_cellOf_5 kA_7 rfl h1 ?_
  refine jr_istore_n (lv' := [(3, .int (st 7 (Int32.toNatClampNeg l2))), (0, .ref (ad 1)), (1, .int l1), (2, .int l2)]) C dEx_cellOf_6 rfl (by decide) rfl ?_
  refine jr_iload_n (q := 0) C dEx_cellOf_7 rfl rfl ?_
  refine jr_iconst (v := 1) C dEx_cellOf_8 (by decide) ?_
  refine jr_icmp_ge (tgt := 16) C dEx_cellOf_9 (by decide) (fun z => ?_) (fun z => ?_)
  · have h := h.1 z
    refine jr_aload_n (q := 1) C dEx_cellOf_16 rfl rfl ?_
    refine jr_getf (k := 1) C dEx_cellOf_17 inw_Ex (rfl : kC[1]? = _) (by decide) (List.mem_cons_of_mem _ tm1_38) rfl kA_1 rfl ?_
    refine jr_iload_n (q := 2) C dEx_cellOf_20 rfl rfl ?_
    obtain ⟨h2, h⟩ := h
    refine jr_alda (t0 := 1) C dEx_cellOf_21 kA_5 rfl h2 (kE_num h2) ?_
    refine jr_iload_n (q := 3) C dEx_cellOf_22 rfl rfl ?_
    obtain ⟨h3, h⟩ := h
    refine jr_iald (t0 := 0) C dEx_cellOf_23 (kA_rownum h2) rfl h3 ?_
    refine jr_iload_n (q := 0) C dEx_cellOf_24 rfl rfl ?_
    obtain ⟨h4, h⟩ := h
    refine jr_idiv C dEx_cellOf_25 h4 ?_
    exact jr_reti C hr hlocks dEx_cellOf_26 h rfl
  · have h := h.2 z
    refine jr_iconst (v := 0) C dEx_cellOf_12 (by decide) ?_
    refine jr_goto (tgt := 26) C dEx_cellOf_13 (by decide) ?_
    exact jr_reti C hr hlocks dEx_cellOf_26 h rfl
def wp_Ex_sameCells_6 (K F : Nat) (post : Int32 → jS → Prop) : Nat → jS → Int32 → Int32 → Int32 → Int32 → Int32 → Int32 → Prop
  | 0 => fun _ _ _ _ _ _ _ => False
  | n + 1 => fun st x1 x2 x3 x4 x5 x6 => ((x4 ≤ x6 → post x5 st) ∧ (¬ x4 ≤ x6 → wp_Ex_cellOf K F st x1 x6 (fun r2 st1 => wp_Ex_cellOf K F st1 x2 x6 (fun r4 st3 => ((¬ r2 = r4 → wp_Ex_sameCells_6 K F post n st3 x1 x2 x3 x4 x5 (x6 + (1 : Int32))) ∧ (r2 = r4 → wp_Ex_sameCells_6 K F post n st3 x1 x2 x3 x4 (x5 + (1 : Int32)) (x6 + (1 : Int32))))))))
def wp_Ex_sameCells (K F : Nat) (st : jS) (l1 : Int32) (l2 : Int32) (l3 : Int32) (l4 : Int32) (post : Int32 → jS → Prop) : Prop :=
  (∃ n7, wp_Ex_sameCells_6 K F post n7 st l1 l2 l3 l4 (0 : Int32) l3)
set_option maxRecDepth 100000 in
set_option maxHeartbeats 4000000 in
theorem c_Ex_sameCells {st : jS} {l1 : Int32} {l2 : Int32} {l3 : Int32} {l4 : Int32} {post : Int32 → jS → Prop} (h : wp_Ex_sameCells K F st l1 l2 l3 l4 post) : jr_Mi l yEx_sameCells wEx_sameCells ({ frames := 1, cells := 0, slots := 0, locals := 23 }) [.ref (ad 1), .int l1, .int l2, .int l3, .int l4] D kC (kT cI cII cL cJ) (kW cI cII cL ad K F fr st) (kW cI cII cL ad K F fr) post := by
  refine jr_ofi (cc := bEx_sameCells) (nL := 7) (lv := [(0, .ref (ad 1)), (1, .int l1), (2, .int l2), (3, .int l3), (4, .int l4)]) (by decide) rfl (Nat.le_of_ble_eq_true rfl) rfl (fun p e s m args below meth c A C hr hlocks => ?_)
  unfold wp_Ex_sameCells at h
  refine jr_iconst (v := 0) C dEx_sameCells_0 (by decide) ?_
  refine jr_istore (lv' := [(5, .int (0 : Int32)), (0, .ref (ad 1)), (1, .int l1), (2, .int l2), (3, .int l3), (4, .int l4)]) C dEx_sameCells_1 (by decide) rfl ?_
  refine jr_iload_n (q := 4) C dEx_sameCells_3 rfl rfl ?_
  refine jr_istore (lv' := [(6, .int l3), (5, .int (0 : Int32)), (0, .ref (ad 1)), (1, .int l1), (2, .int l2), (3, .int l3), (4, .int l4)]) C dEx_sameCells_4 (by decide) rfl ?_
  have lp5 : ∀ (n : Nat) (st : jS) (x1 : Int32) (x2 : Int32) (x3 : Int32) (x4 : Int32) (x5 : Int32) (x6 : Int32), wp_Ex_sameCells_6 K F post n st x1 x2 x3 x4 x5 x6 → jr_J p l e (headSpec wEx_sameCells ({ frames := 1, cells := 0, slots := 0, locals := 23 })).room s m args below meth c A D kC 7 0 0 (MQ below (va_Qi post (jr_B D kC (kT cI cII cL cJ) (kW cI cII cL ad K F fr) A) A) args s 0 0 A) (kW cI cII cL ad K F fr st) 6 [(0, .ref (ad 1)), (1, .int x1), (2, .int x2), (3, .int x3), (4, .int x4), (5, .int x5), (6, .int x6)] [] := by
    intro n
    induction n with
    | zero => intro st x1 x2 x3 x4 x5 x6 h; exact h.elim
    | succ n ih =>
      intro st x1 x2 x3 x4 x5 x6 h
      unfold wp_Ex_sameCells_6 at h
      refine jr_iload (q := 6) C dEx_sameCells_6 rfl ?_
      refine jr_iload (q := 4) C dEx_sameCells_8 rfl ?_
      refine jr_icmp_ge (tgt := 39) C dEx_sameCells_10 (by decide) (fun z => ?_) (fun z => ?_)
      · have h := h.1 z
        refine jr_iload (q := 5) C dEx_sameCells_39 rfl ?_
        exact jr_reti C hr hlocks dEx_sameCells_41 h rfl
      · have h := h.2 z
        refine jr_aload_n (q := 0) C dEx_sameCells_13 rfl rfl ?_
        refine jr_iload_n (q := 1) C dEx_sameCells_14 rfl rfl ?_
        refine jr_iload (q := 6) C dEx_sameCells_15 rfl ?_
        refine jr_callVi (As := [.int x1, .int x6]) (rest := []) C (c_Ex_cellOf h) (cwV 2 C.2.2.2.2.1 (tg_V tm1_175 tm1_176 tm1_177 tm1_3 tm1_178) rfl rfl rfl ⟨rfl, by decide, by decide, by decide⟩ ⟨Nat.le_of_ble_eq_true rfl, Nat.le_of_ble_eq_true rfl⟩) dEx_sameCells_17 (rfl : kC[1]? = _) kA_1 rfl rfl (Nat.le_of_ble_eq_true rfl) ⟨Nat.le_of_ble_eq_true rfl, Nat.le_of_ble_eq_true rfl⟩ (fun r2 st1 h => ?_)
        refine jr_aload_n (q := 0) C dEx_sameCells_20 rfl rfl ?_
        refine jr_iload_n (q := 2) C dEx_sameCells_21 rfl rfl ?_
        refine jr_iload (q := 6) C dEx_sameCells_22 rfl ?_
        refine jr_callVi (As := [.int x2, .int x6]) (rest := [.int r2]) C (c_Ex_cellOf h) (cwV 2 C.2.2.2.2.1 (tg_V tm1_175 tm1_176 tm1_177 tm1_3 tm1_178) rfl rfl rfl ⟨rfl, by decide, by decide, by decide⟩ ⟨Nat.le_of_ble_eq_true rfl, Nat.le_of_ble_eq_true rfl⟩) dEx_sameCells_24 (rfl : kC[1]? = _) kA_1 rfl rfl (Nat.le_of_ble_eq_true rfl) ⟨Nat.le_of_ble_eq_true rfl, Nat.le_of_ble_eq_true rfl⟩ (fun r4 st3 h => ?_)
        refine jr_icmp_ne (tgt := 33) C dEx_sameCells_27 (by decide) (fun z => ?_) (fun z => ?_)
        · have h := h.1 z
          refine jr_iinc (q := 6) (v := (x6 + (1 : Int32))) (lv' := [(6, .int (x6 + (1 : Int32))), (0, .ref (ad 1)), (1, .int x1), (2, .int x2), (3, .int x3), (4, .int x4), (5, .int x5)]) C dEx_sameCells_33 rfl rfl (by decide) rfl ?_
          refine jr_goto (tgt := 6) C dEx_sameCells_36 (by decide) ?_
          refine jr_lv (lv' := [(0, .ref (ad 1)), (1, .int x1), (2, .int x2), (3, .int x3), (4, .int x4), (5, .int x5), (6, .int (x6 + (1 : Int32)))]) [1, 2, 3, 4, 5, 6, 0] rfl ?_
          exact ih st3 x1 x2 x3 x4 x5 (x6 + (1 : Int32)) h
        · have h := h.2 z
          refine jr_iinc (q := 5) (v := (x5 + (1 : Int32))) (lv' := [(5, .int (x5 + (1 : Int32))), (0, .ref (ad 1)), (1, .int x1), (2, .int x2), (3, .int x3), (4, .int x4), (6, .int x6)]) C dEx_sameCells_30 rfl rfl (by decide) rfl ?_
          refine jr_iinc (q := 6) (v := (x6 + (1 : Int32))) (lv' := [(6, .int (x6 + (1 : Int32))), (5, .int (x5 + (1 : Int32))), (0, .ref (ad 1)), (1, .int x1), (2, .int x2), (3, .int x3), (4, .int x4)]) C dEx_sameCells_33 rfl rfl (by decide) rfl ?_
          refine jr_goto (tgt := 6) C dEx_sameCells_36 (by decide) ?_
          refine jr_lv (lv' := [(0, .ref (ad 1)), (1, .int x1), (2, .int x2), (3, .int x3), (4, .int x4), (5, .int (x5 + (1 : Int32))), (6, .int (x6 + (1 : Int32)))]) [2, 3, 4, 5, 6, 1, 0] rfl ?_
          exact ih st3 x1 x2 x3 x4 (x5 + (1 : Int32)) (x6 + (1 : Int32)) h
  obtain ⟨n6, h⟩ := h
  refine jr_lv (lv' := [(0, .ref (ad 1)), (1, .int l1), (2, .int l2), (3, .int l3), (4, .int l4), (5, .int (0 : Int32)), (6, .int l3)]) [2, 3, 4, 5, 6, 1, 0] rfl ?_
  exact lp5 n6 st l1 l2 l3 l4 (0 : Int32) l3 h
def wp_Ex_countTaught_4 (K F : Nat) (post : Int32 → jS → Prop) : Nat → jS → Int32 → Int32 → Int32 → Prop
  | 0 => fun _ _ _ _ => False
  | n + 1 => fun st x1 x2 x3 => (((st 1 5) ≤ x3 → post x2 st) ∧ (¬ (st 1 5) ≤ x3 → vp_in x3 24 ∧ ((¬ (st 6 (Int32.toNatClampNeg x3)) = x1 → wp_Ex_countTaught_4 K F post n st x1 x2 (x3 + (1 : Int32))) ∧ ((st 6 (Int32.toNatClampNeg x3)) = x1 → wp_Ex_countTaught_4 K F post n st x1 (x2 + (1 : Int32)) (x3 + (1 : Int32))))))
def wp_Ex_countTaught (K F : Nat) (st : jS) (l1 : Int32) (post : Int32 → jS → Prop) : Prop :=
  (∃ n4, wp_Ex_countTaught_4 K F post n4 st l1 (0 : Int32) (0 : Int32))
set_option maxRecDepth 100000 in
set_option maxHeartbeats 4000000 in
theorem c_Ex_countTaught {st : jS} {l1 : Int32} {post : Int32 → jS → Prop} (h : wp_Ex_countTaught K F st l1 post) : jr_Mi l yEx_countTaught wEx_countTaught ({ frames := 0, cells := 0, slots := 0, locals := 0 }) [.ref (ad 1), .int l1] D kC (kT cI cII cL cJ) (kW cI cII cL ad K F fr st) (kW cI cII cL ad K F fr) post := by
  refine jr_ofi (cc := bEx_countTaught) (nL := 4) (lv := [(0, .ref (ad 1)), (1, .int l1)]) (by decide) rfl (Nat.le_of_ble_eq_true rfl) rfl (fun p e s m args below meth c A C hr hlocks => ?_)
  unfold wp_Ex_countTaught at h
  refine jr_iconst (v := 0) C dEx_countTaught_0 (by decide) ?_
  refine jr_istore_n (lv' := [(2, .int (0 : Int32)), (0, .ref (ad 1)), (1, .int l1)]) C dEx_countTaught_1 rfl (by decide) rfl ?_
  refine jr_iconst (v := 0) C dEx_countTaught_2 (by decide) ?_
  refine jr_istore_n (lv' := [(3, .int (0 : Int32)), (2, .int (0 : Int32)), (0, .ref (ad 1)), (1, .int l1)]) C dEx_countTaught_3 rfl (by decide) rfl ?_
  have lp2 : ∀ (n : Nat) (st : jS) (x1 : Int32) (x2 : Int32) (x3 : Int32), wp_Ex_countTaught_4 K F post n st x1 x2 x3 → jr_J p l e (headSpec wEx_countTaught ({ frames := 0, cells := 0, slots := 0, locals := 0 })).room s m args below meth c A D kC 4 0 0 (MQ below (va_Qi post (jr_B D kC (kT cI cII cL cJ) (kW cI cII cL ad K F fr) A) A) args s 0 0 A) (kW cI cII cL ad K F fr st) 4 [(0, .ref (ad 1)), (1, .int x1), (2, .int x2), (3, .int x3)] [] := by
    intro n
    induction n with
    | zero => intro st x1 x2 x3 h; exact h.elim
    | succ n ih =>
      intro st x1 x2 x3 h
      unfold wp_Ex_countTaught_4 at h
      refine jr_iload_n (q := 3) C dEx_countTaught_4 rfl rfl ?_
      refine jr_aload_n (q := 0) C dEx_countTaught_5 rfl rfl ?_
      refine jr_getf (k := 5) C dEx_countTaught_6 inw_Ex (rfl : kC[1]? = _) (by decide) (List.mem_cons_of_mem _ tm1_46) rfl kA_1 rfl ?_
      refine jr_icmp_ge (tgt := 31) C dEx_countTaught_9 (by decide) (fun z => ?_) (fun z => ?_)
      · have h := h.1 z
        refine jr_iload_n (q := 2) C dEx_countTaught_31 rfl rfl ?_
        exact jr_reti C hr hlocks dEx_countTaught_32 h rfl
      · have h := h.2 z
        refine jr_aload_n (q := 0) C dEx_countTaught_12 rfl rfl ?_
        refine jr_getf (k := 2) C dEx_countTaught_13 inw_Ex (rfl : kC[1]? = _) (by decide) (List.mem_cons_of_mem _ tm1_40) rfl kA_1 rfl ?_
        refine jr_iload_n (q := 3) C dEx_countTaught_16 rfl rfl ?_
        obtain ⟨h1, h⟩ := h
        refine jr_iald (t0 := 0) C dEx_countTaught_17 kA_6 rfl h1 ?_
        refine jr_iload_n (q := 1) C dEx_countTaught_18 rfl rfl ?_
        refine jr_icmp_ne (tgt := 25) C dEx_countTaught_19 (by decide) (fun z => ?_) (fun z => ?_)
        · have h := h.1 z
          refine jr_iinc (q := 3) (v := (x3 + (1 : Int32))) (lv' := [(3, .int (x3 + (1 : Int32))), (0, .ref (ad 1)), (1, .int x1), (2, .int x2)]) C dEx_countTaught_25 rfl rfl (by decide) rfl ?_
          refine jr_goto (tgt := 4) C dEx_countTaught_28 (by decide) ?_
          refine jr_lv (lv' := [(0, .ref (ad 1)), (1, .int x1), (2, .int x2), (3, .int (x3 + (1 : Int32)))]) [1, 2, 3, 0] rfl ?_
          exact ih st x1 x2 (x3 + (1 : Int32)) h
        · have h := h.2 z
          refine jr_iinc (q := 2) (v := (x2 + (1 : Int32))) (lv' := [(2, .int (x2 + (1 : Int32))), (0, .ref (ad 1)), (1, .int x1), (3, .int x3)]) C dEx_countTaught_22 rfl rfl (by decide) rfl ?_
          refine jr_iinc (q := 3) (v := (x3 + (1 : Int32))) (lv' := [(3, .int (x3 + (1 : Int32))), (2, .int (x2 + (1 : Int32))), (0, .ref (ad 1)), (1, .int x1)]) C dEx_countTaught_25 rfl rfl (by decide) rfl ?_
          refine jr_goto (tgt := 4) C dEx_countTaught_28 (by decide) ?_
          refine jr_lv (lv' := [(0, .ref (ad 1)), (1, .int x1), (2, .int (x2 + (1 : Int32))), (3, .int (x3 + (1 : Int32)))]) [2, 3, 1, 0] rfl ?_
          exact ih st x1 (x2 + (1 : Int32)) (x3 + (1 : Int32)) h
  obtain ⟨n3, h⟩ := h
  refine jr_lv (lv' := [(0, .ref (ad 1)), (1, .int l1), (2, .int (0 : Int32)), (3, .int (0 : Int32))]) [2, 3, 1, 0] rfl ?_
  exact lp2 n3 st l1 (0 : Int32) (0 : Int32) h
def wp_KT_square (K F : Nat) (st : jS) (l0 : Int32) (post : Int32 → jS → Prop) : Prop :=
  post (l0 * l0) st
set_option maxRecDepth 100000 in
set_option maxHeartbeats 4000000 in
theorem c_KT_square {st : jS} {l0 : Int32} {post : Int32 → jS → Prop} (h : wp_KT_square K F st l0 post) : jr_Mi l yKT_square wKT_square ({ frames := 0, cells := 0, slots := 0, locals := 0 }) [.int l0] D kC (kT cI cII cL cJ) (kW cI cII cL ad K F fr st) (kW cI cII cL ad K F fr) post := by
  refine jr_ofi (cc := bKT_square) (nL := 1) (lv := [(0, .int l0)]) (by decide) rfl (Nat.le_of_ble_eq_true rfl) rfl (fun p e s m args below meth c A C hr hlocks => ?_)
  unfold wp_KT_square at h
  refine jr_iload_n (q := 0) C dKT_square_0 rfl rfl ?_
  refine jr_iload_n (q := 0) C dKT_square_1 rfl rfl ?_
  refine jr_imul C dKT_square_2 ?_
  exact jr_reti C hr hlocks dKT_square_3 h rfl
def wp_Ex_squares_5 (K F : Nat) (post : Int32 → jS → Prop) : Nat → jS → Int32 → Int32 → Int32 → Int32 → Prop
  | 0 => fun _ _ _ _ _ => False
  | n + 1 => fun st x1 x2 x3 x4 => (((st 1 0) ≤ x4 → post x3 st) ∧ (¬ (st 1 0) ≤ x4 → vp_in x1 24 ∧ vp_in x4 F ∧ vp_in x2 24 ∧ vp_in x4 F ∧ wp_KT_square K F st ((st (15 + (Int32.toNatClampNeg x1)) (Int32.toNatClampNeg x4)) - (st (15 + (Int32.toNatClampNeg x2)) (Int32.toNatClampNeg x4))) (fun r6 st5 => wp_Ex_squares_5 K F post n st5 x1 x2 (x3 + r6) (x4 + (1 : Int32)))))
def wp_Ex_squares (K F : Nat) (st : jS) (l1 : Int32) (l2 : Int32) (post : Int32 → jS → Prop) : Prop :=
  (∃ n9, wp_Ex_squares_5 K F post n9 st l1 l2 (0 : Int32) (0 : Int32))
set_option maxRecDepth 100000 in
set_option maxHeartbeats 4000000 in
theorem c_Ex_squares {st : jS} {l1 : Int32} {l2 : Int32} {post : Int32 → jS → Prop} (h : wp_Ex_squares K F st l1 l2 post) : jr_Mi l yEx_squares wEx_squares ({ frames := 1, cells := 0, slots := 0, locals := 20 }) [.ref (ad 1), .int l1, .int l2] D kC (kT cI cII cL cJ) (kW cI cII cL ad K F fr st) (kW cI cII cL ad K F fr) post := by
  refine jr_ofi (cc := bEx_squares) (nL := 5) (lv := [(0, .ref (ad 1)), (1, .int l1), (2, .int l2)]) (by decide) rfl (Nat.le_of_ble_eq_true rfl) rfl (fun p e s m args below meth c A C hr hlocks => ?_)
  unfold wp_Ex_squares at h
  refine jr_iconst (v := 0) C dEx_squares_0 (by decide) ?_
  refine jr_istore_n (lv' := [(3, .int (0 : Int32)), (0, .ref (ad 1)), (1, .int l1), (2, .int l2)]) C dEx_squares_1 rfl (by decide) rfl ?_
  refine jr_iconst (v := 0) C dEx_squares_2 (by decide) ?_
  refine jr_istore (lv' := [(4, .int (0 : Int32)), (3, .int (0 : Int32)), (0, .ref (ad 1)), (1, .int l1), (2, .int l2)]) C dEx_squares_3 (by decide) rfl ?_
  have lp7 : ∀ (n : Nat) (st : jS) (x1 : Int32) (x2 : Int32) (x3 : Int32) (x4 : Int32), wp_Ex_squares_5 K F post n st x1 x2 x3 x4 → jr_J p l e (headSpec wEx_squares ({ frames := 1, cells := 0, slots := 0, locals := 20 })).room s m args below meth c A D kC 5 0 0 (MQ below (va_Qi post (jr_B D kC (kT cI cII cL cJ) (kW cI cII cL ad K F fr) A) A) args s 0 0 A) (kW cI cII cL ad K F fr st) 5 [(0, .ref (ad 1)), (1, .int x1), (2, .int x2), (3, .int x3), (4, .int x4)] [] := by
    intro n
    induction n with
    | zero => intro st x1 x2 x3 x4 h; exact h.elim
    | succ n ih =>
      intro st x1 x2 x3 x4 h
      unfold wp_Ex_squares_5 at h
      refine jr_iload (q := 4) C dEx_squares_5 rfl ?_
      refine jr_aload_n (q := 0) C dEx_squares_7 rfl rfl ?_
      refine jr_getf (k := 0) C dEx_squares_8 inw_Ex (rfl : kC[1]? = _) (by decide) (List.mem_cons_of_mem _ tm1_36) rfl kA_1 rfl ?_
      refine jr_icmp_ge (tgt := 45) C dEx_squares_11 (by decide) (fun z => ?_) (fun z => ?_)
      · have h := h.1 z
        refine jr_iload_n (q := 3) C dEx_squares_45 rfl rfl ?_
        exact jr_reti C hr hlocks dEx_squares_46 h rfl
      · have h := h.2 z
        refine jr_iload_n (q := 3) C dEx_squares_14 rfl rfl ?_
        refine jr_aload_n (q := 0) C dEx_squares_15 rfl rfl ?_
        refine jr_getf (k := 1) C dEx_squares_16 inw_Ex (rfl : kC[1]? = _) (by decide) (List.mem_cons_of_mem _ tm1_38) rfl kA_1 rfl ?_
        refine jr_iload_n (q := 1) C dEx_squares_19 rfl rfl ?_
        obtain ⟨h1, h⟩ := h
        refine jr_alda (t0 := 1) C dEx_squares_20 kA_5 rfl h1 (kE_num h1) ?_
        refine jr_iload (q := 4) C dEx_squares_21 rfl ?_
        obtain ⟨h2, h⟩ := h
        refine jr_iald (t0 := 0) C dEx_squares_23 (kA_rownum h1) rfl h2 ?_
        refine jr_aload_n (q := 0) C dEx_squares_24 rfl rfl ?_
        refine jr_getf (k := 1) C dEx_squares_25 inw_Ex (rfl : kC[1]? = _) (by decide) (List.mem_cons_of_mem _ tm1_38) rfl kA_1 rfl ?_
        refine jr_iload_n (q := 2) C dEx_squares_28 rfl rfl ?_
        obtain ⟨h3, h⟩ := h
        refine jr_alda (t0 := 1) C dEx_squares_29 kA_5 rfl h3 (kE_num h3) ?_
        refine jr_iload (q := 4) C dEx_squares_30 rfl ?_
        obtain ⟨h4, h⟩ := h
        refine jr_iald (t0 := 0) C dEx_squares_32 (kA_rownum h3) rfl h4 ?_
        refine jr_isub C dEx_squares_33 ?_
        refine jr_callSNi (As := [.int ((st (15 + (Int32.toNatClampNeg x1)) (Int32.toNatClampNeg x4)) - (st (15 + (Int32.toNatClampNeg x2)) (Int32.toNatClampNeg x4)))]) (rest := [.int x3]) C (c_KT_square h) ⟨va_cnB 1 C.2.2.2.2.1 (tg_N tm3_12) rfl rfl rfl (C.2.2.2.2.2.2.2 _ (List.mem_of_getElem? (i := 9) rfl)) (C.2.2.2.2.1 _ (List.mem_cons_of_mem _ tm1_1)) ⟨by decide, by decide, by decide⟩ ⟨Nat.le_of_ble_eq_true rfl, Nat.le_of_ble_eq_true rfl⟩, C.2.2.2.2.1 _ (List.mem_cons_of_mem _ tm3_11), trivial⟩ dEx_squares_34 rfl rfl (Nat.le_of_ble_eq_true rfl) ⟨Nat.le_of_ble_eq_true rfl, Nat.le_of_ble_eq_true rfl⟩ (fun r6 st5 h => ?_)
        refine jr_iadd C dEx_squares_37 ?_
        refine jr_istore_n (lv' := [(3, .int (x3 + r6)), (0, .ref (ad 1)), (1, .int x1), (2, .int x2), (4, .int x4)]) C dEx_squares_38 rfl (by decide) rfl ?_
        refine jr_iinc (q := 4) (v := (x4 + (1 : Int32))) (lv' := [(4, .int (x4 + (1 : Int32))), (3, .int (x3 + r6)), (0, .ref (ad 1)), (1, .int x1), (2, .int x2)]) C dEx_squares_39 rfl rfl (by decide) rfl ?_
        refine jr_goto (tgt := 5) C dEx_squares_42 (by decide) ?_
        refine jr_lv (lv' := [(0, .ref (ad 1)), (1, .int x1), (2, .int x2), (3, .int (x3 + r6)), (4, .int (x4 + (1 : Int32)))]) [2, 3, 4, 1, 0] rfl ?_
        exact ih st5 x1 x2 (x3 + r6) (x4 + (1 : Int32)) h
  obtain ⟨n8, h⟩ := h
  refine jr_lv (lv' := [(0, .ref (ad 1)), (1, .int l1), (2, .int l2), (3, .int (0 : Int32)), (4, .int (0 : Int32))]) [2, 3, 4, 1, 0] rfl ?_
  exact lp7 n8 st l1 l2 (0 : Int32) (0 : Int32) h
def wp_Ex_isCandidate (K F : Nat) (st : jS) (l1 : Int32) (l2 : Int32) (post : Int32 → jS → Prop) : Prop :=
  ((l1 = l2 → post (0 : Int32) st) ∧ (¬ l1 = l2 → vp_in l1 24 ∧ (((st 6 (Int32.toNatClampNeg l1)) = (-1 : Int32) → post (0 : Int32) st) ∧ (¬ (st 6 (Int32.toNatClampNeg l1)) = (-1 : Int32) → post (1 : Int32) st))))
set_option maxRecDepth 100000 in
set_option maxHeartbeats 4000000 in
theorem c_Ex_isCandidate {st : jS} {l1 : Int32} {l2 : Int32} {post : Int32 → jS → Prop} (h : wp_Ex_isCandidate K F st l1 l2 post) : jr_Mi l yEx_isCandidate wEx_isCandidate ({ frames := 0, cells := 0, slots := 0, locals := 0 }) [.ref (ad 1), .int l1, .int l2] D kC (kT cI cII cL cJ) (kW cI cII cL ad K F fr st) (kW cI cII cL ad K F fr) post := by
  refine jr_ofz (cc := bEx_isCandidate) (nL := 3) (lv := [(0, .ref (ad 1)), (1, .int l1), (2, .int l2)]) (by decide) rfl (Nat.le_of_ble_eq_true rfl) rfl (fun p e s m args below meth c A C hr hlocks => ?_)
  unfold wp_Ex_isCandidate at h
  refine jr_iload_n (q := 1) C dEx_isCandidate_0 rfl rfl ?_
  refine jr_iload_n (q := 2) C dEx_isCandidate_1 rfl rfl ?_
  refine jr_icmp_eq (tgt := 19) C dEx_isCandidate_2 (by decide) (fun z => ?_) (fun z => ?_)
  · have h := h.1 z
    refine jr_iconst (v := 0) C dEx_isCandidate_19 (by decide) ?_
    exact jr_retz C hr rfl hlocks dEx_isCandidate_20 h rfl
  · have h := h.2 z
    refine jr_aload_n (q := 0) C dEx_isCandidate_5 rfl rfl ?_
    refine jr_getf (k := 2) C dEx_isCandidate_6 inw_Ex (rfl : kC[1]? = _) (by decide) (List.mem_cons_of_mem _ tm1_40) rfl kA_1 rfl ?_
    refine jr_iload_n (q := 1) C dEx_isCandidate_9 rfl rfl ?_
    obtain ⟨h1, h⟩ := h
    refine jr_iald (t0 := 0) C dEx_isCandidate_10 kA_6 rfl h1 ?_
    refine jr_iconst (v := -1) C dEx_isCandidate_11 (by decide) ?_
    refine jr_icmp_eq (tgt := 19) C dEx_isCandidate_12 (by decide) (fun z => ?_) (fun z => ?_)
    · have h := h.1 z
      refine jr_iconst (v := 0) C dEx_isCandidate_19 (by decide) ?_
      exact jr_retz C hr rfl hlocks dEx_isCandidate_20 h rfl
    · have h := h.2 z
      refine jr_iconst (v := 1) C dEx_isCandidate_15 (by decide) ?_
      refine jr_goto (tgt := 20) C dEx_isCandidate_16 (by decide) ?_
      exact jr_retz C hr rfl hlocks dEx_isCandidate_20 h rfl
def wp_Ex_countNearer_13 (K F : Nat) (post : Int32 → jS → Prop) : Nat → jS → Int32 → Int32 → Int32 → Int32 → Int32 → Prop
  | 0 => fun _ _ _ _ _ _ => False
  | n + 1 => fun st x1 x2 x3 x4 x5 => (((st 1 5) ≤ x5 → post x4 st) ∧ (¬ (st 1 5) ≤ x5 → wp_Ex_isCandidate K F st x5 x2 (fun r4 st3 => ((r4 = 0 → wp_Ex_countNearer_13 K F post n st3 x1 x2 x3 x4 (x5 + (1 : Int32))) ∧ (¬ r4 = 0 → wp_Ex_squares K F st3 x5 x2 (fun r6 st5 => ((r6 < x3 → wp_Ex_countNearer_13 K F post n st5 x1 x2 x3 (x4 + (1 : Int32)) (x5 + (1 : Int32))) ∧ (¬ r6 < x3 → ((¬ r6 = x3 → wp_Ex_countNearer_13 K F post n st5 x1 x2 x3 x4 (x5 + (1 : Int32))) ∧ (r6 = x3 → ((x1 ≤ x5 → wp_Ex_countNearer_13 K F post n st5 x1 x2 x3 x4 (x5 + (1 : Int32))) ∧ (¬ x1 ≤ x5 → wp_Ex_countNearer_13 K F post n st5 x1 x2 x3 (x4 + (1 : Int32)) (x5 + (1 : Int32))))))))))))))
def wp_Ex_countNearer (K F : Nat) (st : jS) (l1 : Int32) (l2 : Int32) (post : Int32 → jS → Prop) : Prop :=
  wp_Ex_squares K F st l1 l2 (fun r2 st1 => (∃ n9, wp_Ex_countNearer_13 K F post n9 st1 l1 l2 r2 (0 : Int32) (0 : Int32)))
set_option maxRecDepth 100000 in
set_option maxHeartbeats 4000000 in
theorem c_Ex_countNearer {st : jS} {l1 : Int32} {l2 : Int32} {post : Int32 → jS → Prop} (h : wp_Ex_countNearer K F st l1 l2 post) : jr_Mi l yEx_countNearer wEx_countNearer ({ frames := 2, cells := 0, slots := 0, locals := 44 }) [.ref (ad 1), .int l1, .int l2] D kC (kT cI cII cL cJ) (kW cI cII cL ad K F fr st) (kW cI cII cL ad K F fr) post := by
  refine jr_ofi (cc := bEx_countNearer) (nL := 7) (lv := [(0, .ref (ad 1)), (1, .int l1), (2, .int l2)]) (by decide) rfl (Nat.le_of_ble_eq_true rfl) rfl (fun p e s m args below meth c A C hr hlocks => ?_)
  unfold wp_Ex_countNearer at h
  refine jr_aload_n (q := 0) C dEx_countNearer_0 rfl rfl ?_
  refine jr_iload_n (q := 1) C dEx_countNearer_1 rfl rfl ?_
  refine jr_iload_n (q := 2) C dEx_countNearer_2 rfl rfl ?_
  refine jr_callVi (As := [.int l1, .int l2]) (rest := []) C (c_Ex_squares h) (cwV 2 C.2.2.2.2.1 (tg_V tm3_6 tm3_7 tm3_8 tm1_3 tm3_9) rfl rfl rfl ⟨rfl, by decide, by decide, by decide⟩ ⟨Nat.le_of_ble_eq_true rfl, Nat.le_of_ble_eq_true rfl⟩) dEx_countNearer_3 (rfl : kC[1]? = _) kA_1 rfl rfl (Nat.le_of_ble_eq_true rfl) ⟨Nat.le_of_ble_eq_true rfl, Nat.le_of_ble_eq_true rfl⟩ (fun r2 st1 h => ?_)
  refine jr_istore_n (lv' := [(3, .int r2), (0, .ref (ad 1)), (1, .int l1), (2, .int l2)]) C dEx_countNearer_6 rfl (by decide) rfl ?_
  refine jr_iconst (v := 0) C dEx_countNearer_7 (by decide) ?_
  refine jr_istore (lv' := [(4, .int (0 : Int32)), (3, .int r2), (0, .ref (ad 1)), (1, .int l1), (2, .int l2)]) C dEx_countNearer_8 (by decide) rfl ?_
  refine jr_iconst (v := 0) C dEx_countNearer_10 (by decide) ?_
  refine jr_istore (lv' := [(5, .int (0 : Int32)), (4, .int (0 : Int32)), (3, .int r2), (0, .ref (ad 1)), (1, .int l1), (2, .int l2)]) C dEx_countNearer_11 (by decide) rfl ?_
  have lp7 : ∀ (n : Nat) (st : jS) (x1 : Int32) (x2 : Int32) (x3 : Int32) (x4 : Int32) (x5 : Int32), wp_Ex_countNearer_13 K F post n st x1 x2 x3 x4 x5 → jr_J p l e (headSpec wEx_countNearer ({ frames := 2, cells := 0, slots := 0, locals := 44 })).room s m args below meth c A D kC 7 0 0 (MQ below (va_Qi post (jr_B D kC (kT cI cII cL cJ) (kW cI cII cL ad K F fr) A) A) args s 0 0 A) (kW cI cII cL ad K F fr st) 13 [(0, .ref (ad 1)), (1, .int x1), (2, .int x2), (3, .int x3), (4, .int x4), (5, .int x5)] [] := by
    intro n
    induction n with
    | zero => intro st x1 x2 x3 x4 x5 h; exact h.elim
    | succ n ih =>
      intro st x1 x2 x3 x4 x5 h
      unfold wp_Ex_countNearer_13 at h
      refine jr_iload (q := 5) C dEx_countNearer_13 rfl ?_
      refine jr_aload_n (q := 0) C dEx_countNearer_15 rfl rfl ?_
      refine jr_getf (k := 5) C dEx_countNearer_16 inw_Ex (rfl : kC[1]? = _) (by decide) (List.mem_cons_of_mem _ tm1_46) rfl kA_1 rfl ?_
      refine jr_icmp_ge (tgt := 68) C dEx_countNearer_19 (by decide) (fun z => ?_) (fun z => ?_)
      · have h := h.1 z
        refine jr_iload (q := 4) C dEx_countNearer_68 rfl ?_
        exact jr_reti C hr hlocks dEx_countNearer_70 h rfl
      · have h := h.2 z
        refine jr_aload_n (q := 0) C dEx_countNearer_22 rfl rfl ?_
        refine jr_iload (q := 5) C dEx_countNearer_23 rfl ?_
        refine jr_iload_n (q := 2) C dEx_countNearer_25 rfl rfl ?_
        refine jr_callVi (As := [.int x5, .int x2]) (rest := []) C (c_Ex_isCandidate h) (cwV 2 C.2.2.2.2.1 (tg_V tm2_238 tm3_0 tp_10 tm1_3 tm3_1) rfl rfl rfl ⟨rfl, by decide, by decide, by decide⟩ ⟨Nat.le_of_ble_eq_true rfl, Nat.le_of_ble_eq_true rfl⟩) dEx_countNearer_26 (rfl : kC[1]? = _) kA_1 rfl rfl (Nat.le_of_ble_eq_true rfl) ⟨Nat.le_of_ble_eq_true rfl, Nat.le_of_ble_eq_true rfl⟩ (fun r4 st3 h => ?_)
        refine jr_if_eq (tgt := 62) C dEx_countNearer_29 (by decide) (fun z => ?_) (fun z => ?_)
        · have h := h.1 z
          refine jr_iinc (q := 5) (v := (x5 + (1 : Int32))) (lv' := [(5, .int (x5 + (1 : Int32))), (0, .ref (ad 1)), (1, .int x1), (2, .int x2), (3, .int x3), (4, .int x4)]) C dEx_countNearer_62 rfl rfl (by decide) rfl ?_
          refine jr_goto (tgt := 13) C dEx_countNearer_65 (by decide) ?_
          refine jr_lv (lv' := [(0, .ref (ad 1)), (1, .int x1), (2, .int x2), (3, .int x3), (4, .int x4), (5, .int (x5 + (1 : Int32)))]) [1, 2, 3, 4, 5, 0] rfl ?_
          exact ih st3 x1 x2 x3 x4 (x5 + (1 : Int32)) h
        · have h := h.2 z
          refine jr_aload_n (q := 0) C dEx_countNearer_32 rfl rfl ?_
          refine jr_iload (q := 5) C dEx_countNearer_33 rfl ?_
          refine jr_iload_n (q := 2) C dEx_countNearer_35 rfl rfl ?_
          refine jr_callVi (As := [.int x5, .int x2]) (rest := []) C (c_Ex_squares h) (cwV 2 C.2.2.2.2.1 (tg_V tm3_6 tm3_7 tm3_8 tm1_3 tm3_9) rfl rfl rfl ⟨rfl, by decide, by decide, by decide⟩ ⟨Nat.le_of_ble_eq_true rfl, Nat.le_of_ble_eq_true rfl⟩) dEx_countNearer_36 (rfl : kC[1]? = _) kA_1 rfl rfl (Nat.le_of_ble_eq_true rfl) ⟨Nat.le_of_ble_eq_true rfl, Nat.le_of_ble_eq_true rfl⟩ (fun r6 st5 h => ?_)
          refine jr_istore (lv' := [(6, .int r6), (0, .ref (ad 1)), (1, .int x1), (2, .int x2), (3, .int x3), (4, .int x4), (5, .int x5)]) C dEx_countNearer_39 (by decide) rfl ?_
          refine jr_iload (q := 0) C dEx_countNearer_41 rfl ?_
          refine jr_iload_n (q := 4) C dEx_countNearer_43 rfl rfl ?_
          refine jr_icmp_lt (tgt := 59) C dEx_countNearer_44 (by decide) (fun z => ?_) (fun z => ?_)
          · have h := h.1 z
            refine jr_iinc (q := 5) (v := (x4 + (1 : Int32))) (lv' := [(4, .int (x4 + (1 : Int32))), (6, .int r6), (0, .ref (ad 1)), (1, .int x1), (2, .int x2), (3, .int x3), (5, .int x5)]) C dEx_countNearer_59 rfl rfl (by decide) rfl ?_
            refine jr_iinc (q := 6) (v := (x5 + (1 : Int32))) (lv' := [(5, .int (x5 + (1 : Int32))), (4, .int (x4 + (1 : Int32))), (6, .int r6), (0, .ref (ad 1)), (1, .int x1), (2, .int x2), (3, .int x3)]) C dEx_countNearer_62 rfl rfl (by decide) rfl ?_
            refine jr_goto (tgt := 13) C dEx_countNearer_65 (by decide) ?_
            refine jr_lv (lv' := [(0, .ref (ad 1)), (1, .int x1), (2, .int x2), (3, .int x3), (4, .int (x4 + (1 : Int32))), (5, .int (x5 + (1 : Int32)))]) [3, 4, 5, 6, 1, 0] rfl ?_
            exact ih st5 x1 x2 x3 (x4 + (1 : Int32)) (x5 + (1 : Int32)) h
          · have h := h.2 z
            refine jr_iload (q := 0) C dEx_countNearer_47 rfl ?_
            refine jr_iload_n (q := 4) C dEx_countNearer_49 rfl rfl ?_
            refine jr_icmp_ne (tgt := 62) C dEx_countNearer_50 (by decide) (fun z => ?_) (fun z => ?_)
            · have h := h.1 z
              refine jr_iinc (q := 6) (v := (x5 + (1 : Int32))) (lv' := [(5, .int (x5 + (1 : Int32))), (6, .int r6), (0, .ref (ad 1)), (1, .int x1), (2, .int x2), (3, .int x3), (4, .int x4)]) C dEx_countNearer_62 rfl rfl (by decide) rfl ?_
              refine jr_goto (tgt := 13) C dEx_countNearer_65 (by decide) ?_
              refine jr_lv (lv' := [(0, .ref (ad 1)), (1, .int x1), (2, .int x2), (3, .int x3), (4, .int x4), (5, .int (x5 + (1 : Int32)))]) [2, 3, 4, 5, 6, 0] rfl ?_
              exact ih st5 x1 x2 x3 x4 (x5 + (1 : Int32)) h
            · have h := h.2 z
              refine jr_iload (q := 6) C dEx_countNearer_53 rfl ?_
              refine jr_iload_n (q := 2) C dEx_countNearer_55 rfl rfl ?_
              refine jr_icmp_ge (tgt := 62) C dEx_countNearer_56 (by decide) (fun z => ?_) (fun z => ?_)
              · have h := h.1 z
                refine jr_iinc (q := 6) (v := (x5 + (1 : Int32))) (lv' := [(5, .int (x5 + (1 : Int32))), (6, .int r6), (0, .ref (ad 1)), (1, .int x1), (2, .int x2), (3, .int x3), (4, .int x4)]) C dEx_countNearer_62 rfl rfl (by decide) rfl ?_
                refine jr_goto (tgt := 13) C dEx_countNearer_65 (by decide) ?_
                refine jr_lv (lv' := [(0, .ref (ad 1)), (1, .int x1), (2, .int x2), (3, .int x3), (4, .int x4), (5, .int (x5 + (1 : Int32)))]) [2, 3, 4, 5, 6, 0] rfl ?_
                exact ih st5 x1 x2 x3 x4 (x5 + (1 : Int32)) h
              · have h := h.2 z
                refine jr_iinc (q := 5) (v := (x4 + (1 : Int32))) (lv' := [(4, .int (x4 + (1 : Int32))), (6, .int r6), (0, .ref (ad 1)), (1, .int x1), (2, .int x2), (3, .int x3), (5, .int x5)]) C dEx_countNearer_59 rfl rfl (by decide) rfl ?_
                refine jr_iinc (q := 6) (v := (x5 + (1 : Int32))) (lv' := [(5, .int (x5 + (1 : Int32))), (4, .int (x4 + (1 : Int32))), (6, .int r6), (0, .ref (ad 1)), (1, .int x1), (2, .int x2), (3, .int x3)]) C dEx_countNearer_62 rfl rfl (by decide) rfl ?_
                refine jr_goto (tgt := 13) C dEx_countNearer_65 (by decide) ?_
                refine jr_lv (lv' := [(0, .ref (ad 1)), (1, .int x1), (2, .int x2), (3, .int x3), (4, .int (x4 + (1 : Int32))), (5, .int (x5 + (1 : Int32)))]) [3, 4, 5, 6, 1, 0] rfl ?_
                exact ih st5 x1 x2 x3 (x4 + (1 : Int32)) (x5 + (1 : Int32)) h
  obtain ⟨n8, h⟩ := h
  refine jr_lv (lv' := [(0, .ref (ad 1)), (1, .int l1), (2, .int l2), (3, .int r2), (4, .int (0 : Int32)), (5, .int (0 : Int32))]) [3, 4, 5, 2, 1, 0] rfl ?_
  exact lp7 n8 st1 l1 l2 r2 (0 : Int32) (0 : Int32) h
def wp_Ex_neighbour_2 (K F : Nat) (post : Int32 → jS → Prop) : Nat → jS → Int32 → Int32 → Int32 → Prop
  | 0 => fun _ _ _ _ => False
  | n + 1 => fun st x1 x2 x3 => (((st 1 5) ≤ x3 → post (-1 : Int32) st) ∧ (¬ (st 1 5) ≤ x3 → wp_Ex_isCandidate K F st x3 x1 (fun r2 st1 => ((r2 = 0 → wp_Ex_neighbour_2 K F post n st1 x1 x2 (x3 + (1 : Int32))) ∧ (¬ r2 = 0 → wp_Ex_countNearer K F st1 x3 x1 (fun r4 st3 => ((¬ r4 = x2 → wp_Ex_neighbour_2 K F post n st3 x1 x2 (x3 + (1 : Int32))) ∧ (r4 = x2 → post x3 st3))))))))
def wp_Ex_neighbour (K F : Nat) (st : jS) (l1 : Int32) (l2 : Int32) (post : Int32 → jS → Prop) : Prop :=
  (∃ n7, wp_Ex_neighbour_2 K F post n7 st l1 l2 (0 : Int32))
set_option maxRecDepth 100000 in
set_option maxHeartbeats 4000000 in
theorem c_Ex_neighbour {st : jS} {l1 : Int32} {l2 : Int32} {post : Int32 → jS → Prop} (h : wp_Ex_neighbour K F st l1 l2 post) : jr_Mi l yEx_neighbour wEx_neighbour ({ frames := 3, cells := 0, slots := 0, locals := 70 }) [.ref (ad 1), .int l1, .int l2] D kC (kT cI cII cL cJ) (kW cI cII cL ad K F fr st) (kW cI cII cL ad K F fr) post := by
  refine jr_ofi (cc := bEx_neighbour) (nL := 4) (lv := [(0, .ref (ad 1)), (1, .int l1), (2, .int l2)]) (by decide) rfl (Nat.le_of_ble_eq_true rfl) rfl (fun p e s m args below meth c A C hr hlocks => ?_)
  unfold wp_Ex_neighbour at h
  refine jr_iconst (v := 0) C dEx_neighbour_0 (by decide) ?_
  refine jr_istore_n (lv' := [(3, .int (0 : Int32)), (0, .ref (ad 1)), (1, .int l1), (2, .int l2)]) C dEx_neighbour_1 rfl (by decide) rfl ?_
  have lp5 : ∀ (n : Nat) (st : jS) (x1 : Int32) (x2 : Int32) (x3 : Int32), wp_Ex_neighbour_2 K F post n st x1 x2 x3 → jr_J p l e (headSpec wEx_neighbour ({ frames := 3, cells := 0, slots := 0, locals := 70 })).room s m args below meth c A D kC 4 0 0 (MQ below (va_Qi post (jr_B D kC (kT cI cII cL cJ) (kW cI cII cL ad K F fr) A) A) args s 0 0 A) (kW cI cII cL ad K F fr st) 2 [(0, .ref (ad 1)), (1, .int x1), (2, .int x2), (3, .int x3)] [] := by
    intro n
    induction n with
    | zero => intro st x1 x2 x3 h; exact h.elim
    | succ n ih =>
      intro st x1 x2 x3 h
      unfold wp_Ex_neighbour_2 at h
      refine jr_iload_n (q := 3) C dEx_neighbour_2 rfl rfl ?_
      refine jr_aload_n (q := 0) C dEx_neighbour_3 rfl rfl ?_
      refine jr_getf (k := 5) C dEx_neighbour_4 inw_Ex (rfl : kC[1]? = _) (by decide) (List.mem_cons_of_mem _ tm1_46) rfl kA_1 rfl ?_
      refine jr_icmp_ge (tgt := 37) C dEx_neighbour_7 (by decide) (fun z => ?_) (fun z => ?_)
      · have h := h.1 z
        refine jr_iconst (v := -1) C dEx_neighbour_37 (by decide) ?_
        exact jr_reti C hr hlocks dEx_neighbour_38 h rfl
      · have h := h.2 z
        refine jr_aload_n (q := 0) C dEx_neighbour_10 rfl rfl ?_
        refine jr_iload_n (q := 3) C dEx_neighbour_11 rfl rfl ?_
        refine jr_iload_n (q := 1) C dEx_neighbour_12 rfl rfl ?_
        refine jr_callVi (As := [.int x3, .int x1]) (rest := []) C (c_Ex_isCandidate h) (cwV 2 C.2.2.2.2.1 (tg_V tm2_238 tm3_0 tp_10 tm1_3 tm3_1) rfl rfl rfl ⟨rfl, by decide, by decide, by decide⟩ ⟨Nat.le_of_ble_eq_true rfl, Nat.le_of_ble_eq_true rfl⟩) dEx_neighbour_13 (rfl : kC[1]? = _) kA_1 rfl rfl (Nat.le_of_ble_eq_true rfl) ⟨Nat.le_of_ble_eq_true rfl, Nat.le_of_ble_eq_true rfl⟩ (fun r2 st1 h => ?_)
        refine jr_if_eq (tgt := 31) C dEx_neighbour_16 (by decide) (fun z => ?_) (fun z => ?_)
        · have h := h.1 z
          refine jr_iinc (q := 3) (v := (x3 + (1 : Int32))) (lv' := [(3, .int (x3 + (1 : Int32))), (0, .ref (ad 1)), (1, .int x1), (2, .int x2)]) C dEx_neighbour_31 rfl rfl (by decide) rfl ?_
          refine jr_goto (tgt := 2) C dEx_neighbour_34 (by decide) ?_
          refine jr_lv (lv' := [(0, .ref (ad 1)), (1, .int x1), (2, .int x2), (3, .int (x3 + (1 : Int32)))]) [1, 2, 3, 0] rfl ?_
          exact ih st1 x1 x2 (x3 + (1 : Int32)) h
        · have h := h.2 z
          refine jr_aload_n (q := 0) C dEx_neighbour_19 rfl rfl ?_
          refine jr_iload_n (q := 3) C dEx_neighbour_20 rfl rfl ?_
          refine jr_iload_n (q := 1) C dEx_neighbour_21 rfl rfl ?_
          refine jr_callVi (As := [.int x3, .int x1]) (rest := []) C (c_Ex_countNearer h) (cwV 2 C.2.2.2.2.1 (tg_V tm3_2 tm3_4 tp_11 tm1_3 tm3_5) rfl rfl rfl ⟨rfl, by decide, by decide, by decide⟩ ⟨Nat.le_of_ble_eq_true rfl, Nat.le_of_ble_eq_true rfl⟩) dEx_neighbour_22 (rfl : kC[1]? = _) kA_1 rfl rfl (Nat.le_of_ble_eq_true rfl) ⟨Nat.le_of_ble_eq_true rfl, Nat.le_of_ble_eq_true rfl⟩ (fun r4 st3 h => ?_)
          refine jr_iload_n (q := 2) C dEx_neighbour_25 rfl rfl ?_
          refine jr_icmp_ne (tgt := 31) C dEx_neighbour_26 (by decide) (fun z => ?_) (fun z => ?_)
          · have h := h.1 z
            refine jr_iinc (q := 3) (v := (x3 + (1 : Int32))) (lv' := [(3, .int (x3 + (1 : Int32))), (0, .ref (ad 1)), (1, .int x1), (2, .int x2)]) C dEx_neighbour_31 rfl rfl (by decide) rfl ?_
            refine jr_goto (tgt := 2) C dEx_neighbour_34 (by decide) ?_
            refine jr_lv (lv' := [(0, .ref (ad 1)), (1, .int x1), (2, .int x2), (3, .int (x3 + (1 : Int32)))]) [1, 2, 3, 0] rfl ?_
            exact ih st3 x1 x2 (x3 + (1 : Int32)) h
          · have h := h.2 z
            refine jr_iload_n (q := 3) C dEx_neighbour_29 rfl rfl ?_
            exact jr_reti C hr hlocks dEx_neighbour_30 h rfl
  obtain ⟨n6, h⟩ := h
  refine jr_lv (lv' := [(0, .ref (ad 1)), (1, .int l1), (2, .int l2), (3, .int (0 : Int32))]) [1, 2, 3, 0] rfl ?_
  exact lp5 n6 st l1 l2 (0 : Int32) h
def wp_Ex_joinGroups_2 (K F : Nat) (post : jS → Prop) : Nat → jS → Int32 → Int32 → Int32 → Prop
  | 0 => fun _ _ _ _ => False
  | n + 1 => fun st x1 x2 x3 => (((st 1 5) ≤ x3 → post st) ∧ (¬ (st 1 5) ≤ x3 → vp_in x3 24 ∧ ((¬ (st 8 (Int32.toNatClampNeg x3)) = x2 → wp_Ex_joinGroups_2 K F post n st x1 x2 (x3 + (1 : Int32))) ∧ ((st 8 (Int32.toNatClampNeg x3)) = x2 → vp_in x3 24 ∧ wp_Ex_joinGroups_2 K F post n (jq st 8 (Int32.toNatClampNeg x3) x1) x1 x2 (x3 + (1 : Int32))))))
def wp_Ex_joinGroups (K F : Nat) (st : jS) (l1 : Int32) (l2 : Int32) (post : jS → Prop) : Prop :=
  (∃ n5, wp_Ex_joinGroups_2 K F post n5 st l1 l2 (0 : Int32))
set_option maxRecDepth 100000 in
set_option maxHeartbeats 4000000 in
theorem c_Ex_joinGroups {st : jS} {l1 : Int32} {l2 : Int32} {post : jS → Prop} (h : wp_Ex_joinGroups K F st l1 l2 post) : jr_Mv l yEx_joinGroups wEx_joinGroups ({ frames := 0, cells := 0, slots := 0, locals := 0 }) [.ref (ad 1), .int l1, .int l2] D kC (kT cI cII cL cJ) (kW cI cII cL ad K F fr st) (kW cI cII cL ad K F fr) post := by
  refine jr_ofv (cc := bEx_joinGroups) (nL := 4) (lv := [(0, .ref (ad 1)), (1, .int l1), (2, .int l2)]) (by decide) rfl (Nat.le_of_ble_eq_true rfl) rfl (fun p e s m args below meth c A C hr hlocks => ?_)
  unfold wp_Ex_joinGroups at h
  refine jr_iconst (v := 0) C dEx_joinGroups_0 (by decide) ?_
  refine jr_istore_n (lv' := [(3, .int (0 : Int32)), (0, .ref (ad 1)), (1, .int l1), (2, .int l2)]) C dEx_joinGroups_1 rfl (by decide) rfl ?_
  have lp3 : ∀ (n : Nat) (st : jS) (x1 : Int32) (x2 : Int32) (x3 : Int32), wp_Ex_joinGroups_2 K F post n st x1 x2 x3 → jr_J p l e (headSpec wEx_joinGroups ({ frames := 0, cells := 0, slots := 0, locals := 0 })).room s m args below meth c A D kC 4 0 0 (MQ below (va_Qv post (jr_B D kC (kT cI cII cL cJ) (kW cI cII cL ad K F fr) A) A) args s 0 0 A) (kW cI cII cL ad K F fr st) 2 [(0, .ref (ad 1)), (1, .int x1), (2, .int x2), (3, .int x3)] [] := by
    intro n
    induction n with
    | zero => intro st x1 x2 x3 h; exact h.elim
    | succ n ih =>
      intro st x1 x2 x3 h
      unfold wp_Ex_joinGroups_2 at h
      refine jr_iload_n (q := 3) C dEx_joinGroups_2 rfl rfl ?_
      refine jr_aload_n (q := 0) C dEx_joinGroups_3 rfl rfl ?_
      refine jr_getf (k := 5) C dEx_joinGroups_4 inw_Ex (rfl : kC[1]? = _) (by decide) (List.mem_cons_of_mem _ tm1_46) rfl kA_1 rfl ?_
      refine jr_icmp_ge (tgt := 33) C dEx_joinGroups_7 (by decide) (fun z => ?_) (fun z => ?_)
      · have h := h.1 z
        exact jr_retv C hr hlocks dEx_joinGroups_33 h rfl
      · have h := h.2 z
        refine jr_aload_n (q := 0) C dEx_joinGroups_10 rfl rfl ?_
        refine jr_getf (k := 4) C dEx_joinGroups_11 inw_Ex (rfl : kC[1]? = _) (by decide) (List.mem_cons_of_mem _ tm1_45) rfl kA_1 rfl ?_
        refine jr_iload_n (q := 3) C dEx_joinGroups_14 rfl rfl ?_
        obtain ⟨h1, h⟩ := h
        refine jr_iald (t0 := 0) C dEx_joinGroups_15 kA_8 rfl h1 ?_
        refine jr_iload_n (q := 2) C dEx_joinGroups_16 rfl rfl ?_
        refine jr_icmp_ne (tgt := 27) C dEx_joinGroups_17 (by decide) (fun z => ?_) (fun z => ?_)
        · have h := h.1 z
          refine jr_iinc (q := 3) (v := (x3 + (1 : Int32))) (lv' := [(3, .int (x3 + (1 : Int32))), (0, .ref (ad 1)), (1, .int x1), (2, .int x2)]) C dEx_joinGroups_27 rfl rfl (by decide) rfl ?_
          refine jr_goto (tgt := 2) C dEx_joinGroups_30 (by decide) ?_
          refine jr_lv (lv' := [(0, .ref (ad 1)), (1, .int x1), (2, .int x2), (3, .int (x3 + (1 : Int32)))]) [1, 2, 3, 0] rfl ?_
          exact ih st x1 x2 (x3 + (1 : Int32)) h
        · have h := h.2 z
          refine jr_aload_n (q := 0) C dEx_joinGroups_20 rfl rfl ?_
          refine jr_getf (k := 4) C dEx_joinGroups_21 inw_Ex (rfl : kC[1]? = _) (by decide) (List.mem_cons_of_mem _ tm1_45) rfl kA_1 rfl ?_
          refine jr_iload_n (q := 3) C dEx_joinGroups_24 rfl rfl ?_
          refine jr_iload_n (q := 1) C dEx_joinGroups_25 rfl rfl ?_
          obtain ⟨h2, h⟩ := h
          refine jr_iast (t0 := 0) C dEx_joinGroups_26 kA_8 rfl h2 ?_
          refine jr_ws (ws' := kW cI cII cL ad K F fr (jq st 8 (Int32.toNatClampNeg x3) x1)) (kP_8) ?_
          refine jr_iinc (q := 3) (v := (x3 + (1 : Int32))) (lv' := [(3, .int (x3 + (1 : Int32))), (0, .ref (ad 1)), (1, .int x1), (2, .int x2)]) C dEx_joinGroups_27 rfl rfl (by decide) rfl ?_
          refine jr_goto (tgt := 2) C dEx_joinGroups_30 (by decide) ?_
          refine jr_lv (lv' := [(0, .ref (ad 1)), (1, .int x1), (2, .int x2), (3, .int (x3 + (1 : Int32)))]) [1, 2, 3, 0] rfl ?_
          exact ih (jq st 8 (Int32.toNatClampNeg x3) x1) x1 x2 (x3 + (1 : Int32)) h
  obtain ⟨n4, h⟩ := h
  refine jr_lv (lv' := [(0, .ref (ad 1)), (1, .int l1), (2, .int l2), (3, .int (0 : Int32))]) [1, 2, 3, 0] rfl ?_
  exact lp3 n4 st l1 l2 (0 : Int32) h
def wp_Ex_countGroups_43 (K F : Nat) (post : Int32 → jS → Prop) (kont : jS → Int32 → Int32 → Int32 → Int32 → Prop) : Nat → jS → Int32 → Int32 → Int32 → Int32 → Prop
  | 0 => fun _ _ _ _ _ => False
  | n + 1 => fun st x1 x2 x3 x4 => (((st 1 5) ≤ x4 → kont st x1 x2 x3 x4) ∧ (¬ (st 1 5) ≤ x4 → vp_in x3 24 ∧ vp_in x4 24 ∧ (((st 8 (Int32.toNatClampNeg x3)) = (st 8 (Int32.toNatClampNeg x4)) → wp_Ex_countGroups_43 K F post kont n st x1 x2 x3 (x4 + (1 : Int32))) ∧ (¬ (st 8 (Int32.toNatClampNeg x3)) = (st 8 (Int32.toNatClampNeg x4)) → wp_Ex_sameCells K F st x3 x4 (0 : Int32) (st 1 0) (fun r4 st3 => ((r4 < x1 → wp_Ex_countGroups_43 K F post kont n st3 x1 x2 x3 (x4 + (1 : Int32))) ∧ (¬ r4 < x1 → vp_in x3 24 ∧ vp_in x4 24 ∧ wp_Ex_joinGroups K F st3 (st3 8 (Int32.toNatClampNeg x3)) (st3 8 (Int32.toNatClampNeg x4)) (fun st7 => wp_Ex_countGroups_43 K F post kont n st7 x1 (x2 + (-1 : Int32)) x3 (x4 + (1 : Int32))))))))))
def wp_Ex_countGroups_30 (K F : Nat) (post : Int32 → jS → Prop) : Nat → jS → Int32 → Int32 → Int32 → Prop
  | 0 => fun _ _ _ _ => False
  | n + 1 => fun st x1 x2 x3 => (((st 1 5) ≤ x3 → post x2 st) ∧ (¬ (st 1 5) ≤ x3 → (∃ n16, wp_Ex_countGroups_43 K F post (fun st11 y12 y13 y14 y15 => wp_Ex_countGroups_30 K F post n st11 y12 y13 (y14 + (1 : Int32))) n16 st x1 x2 x3 (x3 + (1 : Int32)))))
def wp_Ex_countGroups_2 (K F : Nat) (post : Int32 → jS → Prop) : Nat → jS → Int32 → Int32 → Prop
  | 0 => fun _ _ _ => False
  | n + 1 => fun st x1 x2 => (((st 1 5) ≤ x2 → (∃ n19, wp_Ex_countGroups_30 K F post n19 st x1 (st 1 5) (0 : Int32))) ∧ (¬ (st 1 5) ≤ x2 → vp_in x2 24 ∧ wp_Ex_countGroups_2 K F post n (jq st 8 (Int32.toNatClampNeg x2) x2) x1 (x2 + (1 : Int32))))
def wp_Ex_countGroups (K F : Nat) (st : jS) (l1 : Int32) (post : Int32 → jS → Prop) : Prop :=
  (∃ n23, wp_Ex_countGroups_2 K F post n23 st l1 (0 : Int32))
set_option maxRecDepth 100000 in
set_option maxHeartbeats 4000000 in
theorem c_Ex_countGroups {st : jS} {l1 : Int32} {post : Int32 → jS → Prop} (h : wp_Ex_countGroups K F st l1 post) : jr_Mi l yEx_countGroups wEx_countGroups ({ frames := 2, cells := 0, slots := 0, locals := 49 }) [.ref (ad 1), .int l1] D kC (kT cI cII cL cJ) (kW cI cII cL ad K F fr st) (kW cI cII cL ad K F fr) post := by
  refine jr_ofi (cc := bEx_countGroups) (nL := 5) (lv := [(0, .ref (ad 1)), (1, .int l1)]) (by decide) rfl (Nat.le_of_ble_eq_true rfl) rfl (fun p e s m args below meth c A C hr hlocks => ?_)
  unfold wp_Ex_countGroups at h
  refine jr_iconst (v := 0) C dEx_countGroups_0 (by decide) ?_
  refine jr_istore_n (lv' := [(2, .int (0 : Int32)), (0, .ref (ad 1)), (1, .int l1)]) C dEx_countGroups_1 rfl (by decide) rfl ?_
  have lp21 : ∀ (n : Nat) (st : jS) (x1 : Int32) (x2 : Int32), wp_Ex_countGroups_2 K F post n st x1 x2 → jr_J p l e (headSpec wEx_countGroups ({ frames := 2, cells := 0, slots := 0, locals := 49 })).room s m args below meth c A D kC 5 0 0 (MQ below (va_Qi post (jr_B D kC (kT cI cII cL cJ) (kW cI cII cL ad K F fr) A) A) args s 0 0 A) (kW cI cII cL ad K F fr st) 2 [(0, .ref (ad 1)), (1, .int x1), (2, .int x2)] [] := by
    intro n
    induction n with
    | zero => intro st x1 x2 h; exact h.elim
    | succ n ih =>
      intro st x1 x2 h
      unfold wp_Ex_countGroups_2 at h
      refine jr_iload_n (q := 2) C dEx_countGroups_2 rfl rfl ?_
      refine jr_aload_n (q := 0) C dEx_countGroups_3 rfl rfl ?_
      refine jr_getf (k := 5) C dEx_countGroups_4 inw_Ex (rfl : kC[1]? = _) (by decide) (List.mem_cons_of_mem _ tm1_46) rfl kA_1 rfl ?_
      refine jr_icmp_ge (tgt := 23) C dEx_countGroups_7 (by decide) (fun z => ?_) (fun z => ?_)
      · have h := h.1 z
        refine jr_aload_n (q := 0) C dEx_countGroups_23 rfl rfl ?_
        refine jr_getf (k := 5) C dEx_countGroups_24 inw_Ex (rfl : kC[1]? = _) (by decide) (List.mem_cons_of_mem _ tm1_46) rfl kA_1 rfl ?_
        refine jr_istore_n (lv' := [(2, .int (st 1 5)), (0, .ref (ad 1)), (1, .int x1)]) C dEx_countGroups_27 rfl (by decide) rfl ?_
        refine jr_iconst (v := 0) C dEx_countGroups_28 (by decide) ?_
        refine jr_istore_n (lv' := [(3, .int (0 : Int32)), (2, .int (st 1 5)), (0, .ref (ad 1)), (1, .int x1)]) C dEx_countGroups_29 rfl (by decide) rfl ?_
        have lp17 : ∀ (n : Nat) (st : jS) (x1 : Int32) (x2 : Int32) (x3 : Int32), wp_Ex_countGroups_30 K F post n st x1 x2 x3 → jr_J p l e (headSpec wEx_countGroups ({ frames := 2, cells := 0, slots := 0, locals := 49 })).room s m args below meth c A D kC 5 0 0 (MQ below (va_Qi post (jr_B D kC (kT cI cII cL cJ) (kW cI cII cL ad K F fr) A) A) args s 0 0 A) (kW cI cII cL ad K F fr st) 30 [(0, .ref (ad 1)), (1, .int x1), (2, .int x2), (3, .int x3)] [] := by
          intro n
          induction n with
          | zero => intro st x1 x2 x3 h; exact h.elim
          | succ n ih =>
            intro st x1 x2 x3 h
            unfold wp_Ex_countGroups_30 at h
            refine jr_iload_n (q := 3) C dEx_countGroups_30 rfl rfl ?_
            refine jr_aload_n (q := 0) C dEx_countGroups_31 rfl rfl ?_
            refine jr_getf (k := 5) C dEx_countGroups_32 inw_Ex (rfl : kC[1]? = _) (by decide) (List.mem_cons_of_mem _ tm1_46) rfl kA_1 rfl ?_
            refine jr_icmp_ge (tgt := 116) C dEx_countGroups_35 (by decide) (fun z => ?_) (fun z => ?_)
            · have h := h.1 z
              refine jr_iload_n (q := 2) C dEx_countGroups_116 rfl rfl ?_
              exact jr_reti C hr hlocks dEx_countGroups_117 h rfl
            · have h := h.2 z
              refine jr_iload_n (q := 3) C dEx_countGroups_38 rfl rfl ?_
              refine jr_iconst (v := 1) C dEx_countGroups_39 (by decide) ?_
              refine jr_iadd C dEx_countGroups_40 ?_
              refine jr_istore (lv' := [(4, .int (x3 + (1 : Int32))), (0, .ref (ad 1)), (1, .int x1), (2, .int x2), (3, .int x3)]) C dEx_countGroups_41 (by decide) rfl ?_
              have lp9 : ∀ (kont : jS → Int32 → Int32 → Int32 → Int32 → Prop) (hk : ∀ (st : jS) (x1 : Int32) (x2 : Int32) (x3 : Int32) (x4 : Int32), kont st x1 x2 x3 x4 → jr_J p l e (headSpec wEx_countGroups ({ frames := 2, cells := 0, slots := 0, locals := 49 })).room s m args below meth c A D kC 5 0 0 (MQ below (va_Qi post (jr_B D kC (kT cI cII cL cJ) (kW cI cII cL ad K F fr) A) A) args s 0 0 A) (kW cI cII cL ad K F fr st) 110 [(0, .ref (ad 1)), (1, .int x1), (2, .int x2), (3, .int x3), (4, .int x4)] []) (n : Nat) (st : jS) (x1 : Int32) (x2 : Int32) (x3 : Int32) (x4 : Int32), wp_Ex_countGroups_43 K F post kont n st x1 x2 x3 x4 → jr_J p l e (headSpec wEx_countGroups ({ frames := 2, cells := 0, slots := 0, locals := 49 })).room s m args below meth c A D kC 5 0 0 (MQ below (va_Qi post (jr_B D kC (kT cI cII cL cJ) (kW cI cII cL ad K F fr) A) A) args s 0 0 A) (kW cI cII cL ad K F fr st) 43 [(0, .ref (ad 1)), (1, .int x1), (2, .int x2), (3, .int x3), (4, .int x4)] [] := by
                intro kont hk n
                induction n with
                | zero => intro st x1 x2 x3 x4 h; exact h.elim
                | succ n ih =>
                  intro st x1 x2 x3 x4 h
                  unfold wp_Ex_countGroups_43 at h
                  refine jr_iload (q := 4) C dEx_countGroups_43 rfl ?_
                  refine jr_aload_n (q := 0) C dEx_countGroups_45 rfl rfl ?_
                  refine jr_getf (k := 5) C dEx_countGroups_46 inw_Ex (rfl : kC[1]? = _) (by decide) (List.mem_cons_of_mem _ tm1_46) rfl kA_1 rfl ?_
                  refine jr_icmp_ge (tgt := 110) C dEx_countGroups_49 (by decide) (fun z => ?_) (fun z => ?_)
                  · have h := h.1 z
                    refine jr_lv (lv' := [(0, .ref (ad 1)), (1, .int x1), (2, .int x2), (3, .int x3), (4, .int x4)]) [0, 1, 2, 3, 4] rfl ?_
                    exact hk st x1 x2 x3 x4 h
                  · have h := h.2 z
                    refine jr_aload_n (q := 0) C dEx_countGroups_52 rfl rfl ?_
                    refine jr_getf (k := 4) C dEx_countGroups_53 inw_Ex (rfl : kC[1]? = _) (by decide) (List.mem_cons_of_mem _ tm1_45) rfl kA_1 rfl ?_
                    refine jr_iload_n (q := 3) C dEx_countGroups_56 rfl rfl ?_
                    obtain ⟨h1, h⟩ := h
                    refine jr_iald (t0 := 0) C dEx_countGroups_57 kA_8 rfl h1 ?_
                    refine jr_aload_n (q := 0) C dEx_countGroups_58 rfl rfl ?_
                    refine jr_getf (k := 4) C dEx_countGroups_59 inw_Ex (rfl : kC[1]? = _) (by decide) (List.mem_cons_of_mem _ tm1_45) rfl kA_1 rfl ?_
                    refine jr_iload (q := 4) C dEx_countGroups_62 rfl ?_
                    obtain ⟨h2, h⟩ := h
                    refine jr_iald (t0 := 0) C dEx_countGroups_64 kA_8 rfl h2 ?_
                    refine jr_icmp_eq (tgt := 104) C dEx_countGroups_65 (by decide) (fun z => ?_) (fun z => ?_)
                    · have h := h.1 z
                      refine jr_iinc (q := 4) (v := (x4 + (1 : Int32))) (lv' := [(4, .int (x4 + (1 : Int32))), (0, .ref (ad 1)), (1, .int x1), (2, .int x2), (3, .int x3)]) C dEx_countGroups_104 rfl rfl (by decide) rfl ?_
                      refine jr_goto (tgt := 43) C dEx_countGroups_107 (by decide) ?_
                      refine jr_lv (lv' := [(0, .ref (ad 1)), (1, .int x1), (2, .int x2), (3, .int x3), (4, .int (x4 + (1 : Int32)))]) [1, 2, 3, 4, 0] rfl ?_
                      exact ih st x1 x2 x3 (x4 + (1 : Int32)) h
                    · have h := h.2 z
                      refine jr_aload_n (q := 0) C dEx_countGroups_68 rfl rfl ?_
                      refine jr_iload_n (q := 3) C dEx_countGroups_69 rfl rfl ?_
                      refine jr_iload (q := 4) C dEx_countGroups_70 rfl ?_
                      refine jr_iconst (v := 0) C dEx_countGroups_72 (by decide) ?_
                      refine jr_aload_n (q := 0) C dEx_countGroups_73 rfl rfl ?_
                      refine jr_getf (k := 0) C dEx_countGroups_74 inw_Ex (rfl : kC[1]? = _) (by decide) (List.mem_cons_of_mem _ tm1_36) rfl kA_1 rfl ?_
                      refine jr_callVi (As := [.int x3, .int x4, .int (0 : Int32), .int (st 1 0)]) (rest := []) C (c_Ex_sameCells h) (cwV 4 C.2.2.2.2.1 (tg_V tm2_221 tm1_172 tm1_173 tm1_3 tm1_174) rfl rfl rfl ⟨rfl, by decide, by decide, by decide⟩ ⟨Nat.le_of_ble_eq_true rfl, Nat.le_of_ble_eq_true rfl⟩) dEx_countGroups_77 (rfl : kC[1]? = _) kA_1 rfl rfl (Nat.le_of_ble_eq_true rfl) ⟨Nat.le_of_ble_eq_true rfl, Nat.le_of_ble_eq_true rfl⟩ (fun r4 st3 h => ?_)
                      refine jr_iload_n (q := 1) C dEx_countGroups_80 rfl rfl ?_
                      refine jr_icmp_lt (tgt := 104) C dEx_countGroups_81 (by decide) (fun z => ?_) (fun z => ?_)
                      · have h := h.1 z
                        refine jr_iinc (q := 4) (v := (x4 + (1 : Int32))) (lv' := [(4, .int (x4 + (1 : Int32))), (0, .ref (ad 1)), (1, .int x1), (2, .int x2), (3, .int x3)]) C dEx_countGroups_104 rfl rfl (by decide) rfl ?_
                        refine jr_goto (tgt := 43) C dEx_countGroups_107 (by decide) ?_
                        refine jr_lv (lv' := [(0, .ref (ad 1)), (1, .int x1), (2, .int x2), (3, .int x3), (4, .int (x4 + (1 : Int32)))]) [1, 2, 3, 4, 0] rfl ?_
                        exact ih st3 x1 x2 x3 (x4 + (1 : Int32)) h
                      · have h := h.2 z
                        refine jr_aload_n (q := 0) C dEx_countGroups_84 rfl rfl ?_
                        refine jr_aload_n (q := 0) C dEx_countGroups_85 rfl rfl ?_
                        refine jr_getf (k := 4) C dEx_countGroups_86 inw_Ex (rfl : kC[1]? = _) (by decide) (List.mem_cons_of_mem _ tm1_45) rfl kA_1 rfl ?_
                        refine jr_iload_n (q := 3) C dEx_countGroups_89 rfl rfl ?_
                        obtain ⟨h5, h⟩ := h
                        refine jr_iald (t0 := 0) C dEx_countGroups_90 kA_8 rfl h5 ?_
                        refine jr_aload_n (q := 0) C dEx_countGroups_91 rfl rfl ?_
                        refine jr_getf (k := 4) C dEx_countGroups_92 inw_Ex (rfl : kC[1]? = _) (by decide) (List.mem_cons_of_mem _ tm1_45) rfl kA_1 rfl ?_
                        refine jr_iload (q := 4) C dEx_countGroups_95 rfl ?_
                        obtain ⟨h6, h⟩ := h
                        refine jr_iald (t0 := 0) C dEx_countGroups_97 kA_8 rfl h6 ?_
                        refine jr_callVv (As := [.int (st3 8 (Int32.toNatClampNeg x3)), .int (st3 8 (Int32.toNatClampNeg x4))]) (rest := []) C (c_Ex_joinGroups h) (cwV 2 C.2.2.2.2.1 (tg_V tm2_222 tm2_224 tp_9 tm1_3 tm2_225) rfl rfl rfl ⟨rfl, by decide, by decide, by decide⟩ ⟨Nat.le_of_ble_eq_true rfl, Nat.le_of_ble_eq_true rfl⟩) dEx_countGroups_98 (rfl : kC[1]? = _) kA_1 rfl rfl (Nat.le_of_ble_eq_true rfl) ⟨Nat.le_of_ble_eq_true rfl, Nat.le_of_ble_eq_true rfl⟩ (fun st7 h => ?_)
                        refine jr_iinc (q := 2) (v := (x2 + (-1 : Int32))) (lv' := [(2, .int (x2 + (-1 : Int32))), (0, .ref (ad 1)), (1, .int x1), (3, .int x3), (4, .int x4)]) C dEx_countGroups_101 rfl rfl (by decide) rfl ?_
                        refine jr_iinc (q := 4) (v := (x4 + (1 : Int32))) (lv' := [(4, .int (x4 + (1 : Int32))), (2, .int (x2 + (-1 : Int32))), (0, .ref (ad 1)), (1, .int x1), (3, .int x3)]) C dEx_countGroups_104 rfl rfl (by decide) rfl ?_
                        refine jr_goto (tgt := 43) C dEx_countGroups_107 (by decide) ?_
                        refine jr_lv (lv' := [(0, .ref (ad 1)), (1, .int x1), (2, .int (x2 + (-1 : Int32))), (3, .int x3), (4, .int (x4 + (1 : Int32)))]) [2, 3, 1, 4, 0] rfl ?_
                        exact ih st7 x1 (x2 + (-1 : Int32)) x3 (x4 + (1 : Int32)) h
              obtain ⟨n10, h⟩ := h
              refine jr_lv (lv' := [(0, .ref (ad 1)), (1, .int x1), (2, .int x2), (3, .int x3), (4, .int (x3 + (1 : Int32)))]) [1, 2, 3, 4, 0] rfl ?_
              refine lp9 _ (fun st11 y12 y13 y14 y15 h => ?_) n10 st x1 x2 x3 (x3 + (1 : Int32)) h
              refine jr_iinc (q := 3) (v := (y14 + (1 : Int32))) (lv' := [(3, .int (y14 + (1 : Int32))), (0, .ref (ad 1)), (1, .int y12), (2, .int y13), (4, .int y15)]) C dEx_countGroups_110 rfl rfl (by decide) rfl ?_
              refine jr_goto (tgt := 30) C dEx_countGroups_113 (by decide) ?_
              refine jr_lv (lv' := [(0, .ref (ad 1)), (1, .int y12), (2, .int y13), (3, .int (y14 + (1 : Int32)))]) [1, 2, 3, 0] rfl ?_
              exact ih st11 y12 y13 (y14 + (1 : Int32)) h
        obtain ⟨n18, h⟩ := h
        refine jr_lv (lv' := [(0, .ref (ad 1)), (1, .int x1), (2, .int (st 1 5)), (3, .int (0 : Int32))]) [2, 3, 1, 0] rfl ?_
        exact lp17 n18 st x1 (st 1 5) (0 : Int32) h
      · have h := h.2 z
        refine jr_aload_n (q := 0) C dEx_countGroups_10 rfl rfl ?_
        refine jr_getf (k := 4) C dEx_countGroups_11 inw_Ex (rfl : kC[1]? = _) (by decide) (List.mem_cons_of_mem _ tm1_45) rfl kA_1 rfl ?_
        refine jr_iload_n (q := 2) C dEx_countGroups_14 rfl rfl ?_
        refine jr_iload_n (q := 2) C dEx_countGroups_15 rfl rfl ?_
        obtain ⟨h20, h⟩ := h
        refine jr_iast (t0 := 0) C dEx_countGroups_16 kA_8 rfl h20 ?_
        refine jr_ws (ws' := kW cI cII cL ad K F fr (jq st 8 (Int32.toNatClampNeg x2) x2)) (kP_8) ?_
        refine jr_iinc (q := 2) (v := (x2 + (1 : Int32))) (lv' := [(2, .int (x2 + (1 : Int32))), (0, .ref (ad 1)), (1, .int x1)]) C dEx_countGroups_17 rfl rfl (by decide) rfl ?_
        refine jr_goto (tgt := 2) C dEx_countGroups_20 (by decide) ?_
        refine jr_lv (lv' := [(0, .ref (ad 1)), (1, .int x1), (2, .int (x2 + (1 : Int32)))]) [1, 2, 0] rfl ?_
        exact ih (jq st 8 (Int32.toNatClampNeg x2) x2) x1 (x2 + (1 : Int32)) h
  obtain ⟨n22, h⟩ := h
  refine jr_lv (lv' := [(0, .ref (ad 1)), (1, .int l1), (2, .int (0 : Int32))]) [1, 2, 0] rfl ?_
  exact lp21 n22 st l1 (0 : Int32) h
def wp_Ma_floorDiv (K F : Nat) (st : jS) (l0 : Int32) (l1 : Int32) (post : Int32 → jS → Prop) : Prop :=
  (¬ l1 = 0) ∧ ((0 ≤ (l0 ^^^ l1) → post (l0 / l1) st) ∧ (¬ 0 ≤ (l0 ^^^ l1) → ((((l0 / l1) * l1) = l0 → post (l0 / l1) st) ∧ (¬ ((l0 / l1) * l1) = l0 → post ((l0 / l1) - (1 : Int32)) st))))
set_option maxRecDepth 100000 in
set_option maxHeartbeats 4000000 in
theorem c_Ma_floorDiv {st : jS} {l0 : Int32} {l1 : Int32} {post : Int32 → jS → Prop} (h : wp_Ma_floorDiv K F st l0 l1 post) : jr_Mi l yMa_floorDiv wMa_floorDiv ({ frames := 0, cells := 0, slots := 0, locals := 0 }) [.int l0, .int l1] D kC (kT cI cII cL cJ) (kW cI cII cL ad K F fr st) (kW cI cII cL ad K F fr) post := by
  refine jr_ofFi (cc := bMa_floorDiv) (nL := 3) (lv := [(0, .int l0), (1, .int l1)]) (by decide +kernel) rfl (Nat.le_of_ble_eq_true rfl) rfl (fun p e s m args below meth c A C hr hlocks => ?_)
  unfold wp_Ma_floorDiv at h
  refine jr_iload_n (q := 0) C dMa_floorDiv_0 rfl rfl ?_
  refine jr_iload_n (q := 1) C dMa_floorDiv_1 rfl rfl ?_
  obtain ⟨h1, h⟩ := h
  refine jr_idiv C dMa_floorDiv_2 h1 ?_
  refine jr_istore_n (lv' := [(2, .int (l0 / l1)), (0, .int l0), (1, .int l1)]) C dMa_floorDiv_3 rfl (by decide) rfl ?_
  refine jr_iload_n (q := 1) C dMa_floorDiv_4 rfl rfl ?_
  refine jr_iload_n (q := 2) C dMa_floorDiv_5 rfl rfl ?_
  refine jr_ixor C dMa_floorDiv_6 ?_
  refine jr_if_ge (tgt := 21) C dMa_floorDiv_7 (by decide) (fun z => ?_) (fun z => ?_)
  · have h := h.1 z
    refine jr_iload_n (q := 0) C dMa_floorDiv_21 rfl rfl ?_
    exact jr_reti C hr hlocks dMa_floorDiv_22 h rfl
  · have h := h.2 z
    refine jr_iload_n (q := 0) C dMa_floorDiv_10 rfl rfl ?_
    refine jr_iload_n (q := 2) C dMa_floorDiv_11 rfl rfl ?_
    refine jr_imul C dMa_floorDiv_12 ?_
    refine jr_iload_n (q := 1) C dMa_floorDiv_13 rfl rfl ?_
    refine jr_icmp_eq (tgt := 21) C dMa_floorDiv_14 (by decide) (fun z => ?_) (fun z => ?_)
    · have h := h.1 z
      refine jr_iload_n (q := 0) C dMa_floorDiv_21 rfl rfl ?_
      exact jr_reti C hr hlocks dMa_floorDiv_22 h rfl
    · have h := h.2 z
      refine jr_iload_n (q := 0) C dMa_floorDiv_17 rfl rfl ?_
      refine jr_iconst (v := 1) C dMa_floorDiv_18 (by decide) ?_
      refine jr_isub C dMa_floorDiv_19 ?_
      exact jr_reti C hr hlocks dMa_floorDiv_20 h rfl
end KT
