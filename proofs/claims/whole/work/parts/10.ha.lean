section KT
variable {l : Launch} {D : va_G} {cI cII cL cJ : ClassId} {ad sa : Nat → Nat} {K F : Nat} {fr : va_W}
def wp_Ha_add (K F : Nat) (st : jS) (l1 : Int32) (l2 : Int32) (post : Int32 → jS → Prop) : Prop :=
  vp_in (st 3 4) 12 ∧ vp_in ((jq st 12 (Int32.toNatClampNeg (st 3 4)) l1) 3 4) 12 ∧ post (((jq (jq (jq st 12 (Int32.toNatClampNeg (st 3 4)) l1) 13 (Int32.toNatClampNeg ((jq st 12 (Int32.toNatClampNeg (st 3 4)) l1) 3 4)) l2) 3 4 (((jq (jq st 12 (Int32.toNatClampNeg (st 3 4)) l1) 13 (Int32.toNatClampNeg ((jq st 12 (Int32.toNatClampNeg (st 3 4)) l1) 3 4)) l2) 3 4) + (1 : Int32))) 3 4) - (1 : Int32)) (jq (jq (jq st 12 (Int32.toNatClampNeg (st 3 4)) l1) 13 (Int32.toNatClampNeg ((jq st 12 (Int32.toNatClampNeg (st 3 4)) l1) 3 4)) l2) 3 4 (((jq (jq st 12 (Int32.toNatClampNeg (st 3 4)) l1) 13 (Int32.toNatClampNeg ((jq st 12 (Int32.toNatClampNeg (st 3 4)) l1) 3 4)) l2) 3 4) + (1 : Int32)))
set_option maxRecDepth 100000 in
set_option maxHeartbeats 4000000 in
theorem c_Ha_add {st : jS} {l1 : Int32} {l2 : Int32} {post : Int32 → jS → Prop} (h : wp_Ha_add K F st l1 l2 post) : jr_Mi l yHa_add wHa_add ({ frames := 0, cells := 0, slots := 0, locals := 0 }) [.ref (ad 3), .int l1, .int l2] D kC (kT cI cII cL cJ) (kW cI cII cL ad K F fr st) (kW cI cII cL ad K F fr) post := by
  refine jr_ofi (cc := bHa_add) (nL := 3) (lv := [(0, .ref (ad 3)), (1, .int l1), (2, .int l2)]) (by decide) rfl (Nat.le_of_ble_eq_true rfl) rfl (fun p e s m args below meth c A C hr hlocks => ?_)
  unfold wp_Ha_add at h
  refine jr_aload_n (q := 0) C dHa_add_0 rfl rfl ?_
  refine jr_getf (k := 1) C dHa_add_1 inw_Ha (rfl : kC[3]? = _) (by decide) (List.mem_cons_of_mem _ tm1_97) rfl kA_3 rfl ?_
  refine jr_aload_n (q := 0) C dHa_add_4 rfl rfl ?_
  refine jr_getf (k := 4) C dHa_add_5 inw_Ha (rfl : kC[3]? = _) (by decide) (List.mem_cons_of_mem _ tm1_101) rfl kA_3 rfl ?_
  refine jr_iload_n (q := 1) C dHa_add_8 rfl rfl ?_
  obtain ⟨h1, h⟩ := h
  refine jr_iast (t0 := 0) C dHa_add_9 kA_12 rfl h1 ?_
  refine jr_ws (ws' := kW cI cII cL ad K F fr (jq st 12 (Int32.toNatClampNeg (st 3 4)) l1)) (kP_12) ?_
  refine jr_aload_n (q := 0) C dHa_add_10 rfl rfl ?_
  refine jr_getf (k := 2) C dHa_add_11 inw_Ha (rfl : kC[3]? = _) (by decide) (List.mem_cons_of_mem _ tm1_98) rfl kA_3 rfl ?_
  refine jr_aload_n (q := 0) C dHa_add_14 rfl rfl ?_
  refine jr_getf (k := 4) C dHa_add_15 inw_Ha (rfl : kC[3]? = _) (by decide) (List.mem_cons_of_mem _ tm1_101) rfl kA_3 rfl ?_
  refine jr_iload_n (q := 2) C dHa_add_18 rfl rfl ?_
  obtain ⟨h2, h⟩ := h
  refine jr_iast (t0 := 0) C dHa_add_19 kA_13 rfl h2 ?_
  refine jr_ws (ws' := kW cI cII cL ad K F fr (jq (jq st 12 (Int32.toNatClampNeg (st 3 4)) l1) 13 (Int32.toNatClampNeg ((jq st 12 (Int32.toNatClampNeg (st 3 4)) l1) 3 4)) l2)) (kP_13) ?_
  refine jr_aload_n (q := 0) C dHa_add_20 rfl rfl ?_
  refine jr_dup C dHa_add_21 rfl ?_
  refine jr_getf (k := 4) C dHa_add_22 inw_Ha (rfl : kC[3]? = _) (by decide) (List.mem_cons_of_mem _ tm1_101) rfl kA_3 rfl ?_
  refine jr_iconst (v := 1) C dHa_add_25 (by decide) ?_
  refine jr_iadd C dHa_add_26 ?_
  refine jr_putf (k := 4) C dHa_add_27 inw_Ha ty_Ha ty_Ha_ok nm_Ha (rfl : kC[3]? = _) (by decide) (List.mem_cons_of_mem _ tm1_101) rfl rfl (ty := .int) rfl rfl rfl kA_3 (Nat.le_of_ble_eq_true rfl) ?_
  refine jr_ws (ws' := kW cI cII cL ad K F fr (jq (jq (jq st 12 (Int32.toNatClampNeg (st 3 4)) l1) 13 (Int32.toNatClampNeg ((jq st 12 (Int32.toNatClampNeg (st 3 4)) l1) 3 4)) l2) 3 4 (((jq (jq st 12 (Int32.toNatClampNeg (st 3 4)) l1) 13 (Int32.toNatClampNeg ((jq st 12 (Int32.toNatClampNeg (st 3 4)) l1) 3 4)) l2) 3 4) + (1 : Int32)))) (kP_3) ?_
  refine jr_aload_n (q := 0) C dHa_add_30 rfl rfl ?_
  refine jr_getf (k := 4) C dHa_add_31 inw_Ha (rfl : kC[3]? = _) (by decide) (List.mem_cons_of_mem _ tm1_101) rfl kA_3 rfl ?_
  refine jr_iconst (v := 1) C dHa_add_34 (by decide) ?_
  refine jr_isub C dHa_add_35 ?_
  exact jr_reti C hr hlocks dHa_add_36 h rfl
def wp_Ha_allGrams_4 (K F : Nat) (post : Int32 → jS → Prop) : Nat → jS → Int32 → Int32 → Int32 → Prop
  | 0 => fun _ _ _ _ => False
  | n + 1 => fun st x1 x2 x3 => (((st 3 0) ≤ x3 → post x2 st) ∧ (¬ (st 3 0) ≤ x3 → vp_in x1 12 ∧ vp_in x3 K ∧ wp_Ha_allGrams_4 K F post n st x1 (x2 + (st (39 + (Int32.toNatClampNeg x1)) (Int32.toNatClampNeg x3))) (x3 + (1 : Int32))))
def wp_Ha_allGrams (K F : Nat) (st : jS) (l1 : Int32) (post : Int32 → jS → Prop) : Prop :=
  (∃ n5, wp_Ha_allGrams_4 K F post n5 st l1 (0 : Int32) (0 : Int32))
set_option maxRecDepth 100000 in
set_option maxHeartbeats 4000000 in
theorem c_Ha_allGrams {st : jS} {l1 : Int32} {post : Int32 → jS → Prop} (h : wp_Ha_allGrams K F st l1 post) : jr_Mi l yHa_allGrams wHa_allGrams ({ frames := 0, cells := 0, slots := 0, locals := 0 }) [.ref (ad 3), .int l1] D kC (kT cI cII cL cJ) (kW cI cII cL ad K F fr st) (kW cI cII cL ad K F fr) post := by
  refine jr_ofi (cc := bHa_allGrams) (nL := 4) (lv := [(0, .ref (ad 3)), (1, .int l1)]) (by decide) rfl (Nat.le_of_ble_eq_true rfl) rfl (fun p e s m args below meth c A C hr hlocks => ?_)
  unfold wp_Ha_allGrams at h
  refine jr_iconst (v := 0) C dHa_allGrams_0 (by decide) ?_
  refine jr_istore_n (lv' := [(2, .int (0 : Int32)), (0, .ref (ad 3)), (1, .int l1)]) C dHa_allGrams_1 rfl (by decide) rfl ?_
  refine jr_iconst (v := 0) C dHa_allGrams_2 (by decide) ?_
  refine jr_istore_n (lv' := [(3, .int (0 : Int32)), (2, .int (0 : Int32)), (0, .ref (ad 3)), (1, .int l1)]) C dHa_allGrams_3 rfl (by decide) rfl ?_
  have lp3 : ∀ (n : Nat) (st : jS) (x1 : Int32) (x2 : Int32) (x3 : Int32), wp_Ha_allGrams_4 K F post n st x1 x2 x3 → jr_J p l e (headSpec wHa_allGrams ({ frames := 0, cells := 0, slots := 0, locals := 0 })).room s m args below meth c A D kC 4 0 0 (MQ below (va_Qi post (jr_B D kC (kT cI cII cL cJ) (kW cI cII cL ad K F fr) A) A) args s 0 0 A) (kW cI cII cL ad K F fr st) 4 [(0, .ref (ad 3)), (1, .int x1), (2, .int x2), (3, .int x3)] [] := by
    intro n
    induction n with
    | zero => intro st x1 x2 x3 h; exact h.elim
    | succ n ih =>
      intro st x1 x2 x3 h
      unfold wp_Ha_allGrams_4 at h
      refine jr_iload_n (q := 3) C dHa_allGrams_4 rfl rfl ?_
      refine jr_aload_n (q := 0) C dHa_allGrams_5 rfl rfl ?_
      refine jr_getf (k := 0) C dHa_allGrams_6 inw_Ha (rfl : kC[3]? = _) (by decide) (List.mem_cons_of_mem _ tm1_96) rfl kA_3 rfl ?_
      refine jr_icmp_ge (tgt := 29) C dHa_allGrams_9 (by decide) (fun z => ?_) (fun z => ?_)
      · have h := h.1 z
        refine jr_iload_n (q := 2) C dHa_allGrams_29 rfl rfl ?_
        exact jr_reti C hr hlocks dHa_allGrams_30 h rfl
      · have h := h.2 z
        refine jr_iload_n (q := 2) C dHa_allGrams_12 rfl rfl ?_
        refine jr_aload_n (q := 0) C dHa_allGrams_13 rfl rfl ?_
        refine jr_getf (k := 3) C dHa_allGrams_14 inw_Ha (rfl : kC[3]? = _) (by decide) (List.mem_cons_of_mem _ tm1_99) rfl kA_3 rfl ?_
        refine jr_iload_n (q := 1) C dHa_allGrams_17 rfl rfl ?_
        obtain ⟨h1, h⟩ := h
        refine jr_alda (t0 := 1) C dHa_allGrams_18 kA_14 rfl h1 (kE_cat h1) ?_
        refine jr_iload_n (q := 3) C dHa_allGrams_19 rfl rfl ?_
        obtain ⟨h2, h⟩ := h
        refine jr_iald (t0 := 0) C dHa_allGrams_20 (kA_rowcat h1) rfl h2 ?_
        refine jr_iadd C dHa_allGrams_21 ?_
        refine jr_istore_n (lv' := [(2, .int (x2 + (st (39 + (Int32.toNatClampNeg x1)) (Int32.toNatClampNeg x3)))), (0, .ref (ad 3)), (1, .int x1), (3, .int x3)]) C dHa_allGrams_22 rfl (by decide) rfl ?_
        refine jr_iinc (q := 3) (v := (x3 + (1 : Int32))) (lv' := [(3, .int (x3 + (1 : Int32))), (2, .int (x2 + (st (39 + (Int32.toNatClampNeg x1)) (Int32.toNatClampNeg x3)))), (0, .ref (ad 3)), (1, .int x1)]) C dHa_allGrams_23 rfl rfl (by decide) rfl ?_
        refine jr_goto (tgt := 4) C dHa_allGrams_26 (by decide) ?_
        refine jr_lv (lv' := [(0, .ref (ad 3)), (1, .int x1), (2, .int (x2 + (st (39 + (Int32.toNatClampNeg x1)) (Int32.toNatClampNeg x3)))), (3, .int (x3 + (1 : Int32)))]) [2, 3, 1, 0] rfl ?_
        exact ih st x1 (x2 + (st (39 + (Int32.toNatClampNeg x1)) (Int32.toNatClampNeg x3))) (x3 + (1 : Int32)) h
  obtain ⟨n4, h⟩ := h
  refine jr_lv (lv' := [(0, .ref (ad 3)), (1, .int l1), (2, .int (0 : Int32)), (3, .int (0 : Int32))]) [2, 3, 1, 0] rfl ?_
  exact lp3 n4 st l1 (0 : Int32) (0 : Int32) h
def wp_Ha_squareTo (K F : Nat) (st : jS) (l1 : Int32) (l2 : Int32) (l3 : Int32) (post : Int32 → jS → Prop) : Prop :=
  vp_in l1 12 ∧ wp_KT_square K F st ((st 12 (Int32.toNatClampNeg l1)) - l2) (fun r3 st2 => vp_in l1 12 ∧ wp_KT_square K F st2 ((st2 13 (Int32.toNatClampNeg l1)) - l3) (fun r6 st5 => post (r3 + r6) st5))
set_option maxRecDepth 100000 in
set_option maxHeartbeats 4000000 in
theorem c_Ha_squareTo {st : jS} {l1 : Int32} {l2 : Int32} {l3 : Int32} {post : Int32 → jS → Prop} (h : wp_Ha_squareTo K F st l1 l2 l3 post) : jr_Mi l yHa_squareTo wHa_squareTo ({ frames := 1, cells := 0, slots := 0, locals := 20 }) [.ref (ad 3), .int l1, .int l2, .int l3] D kC (kT cI cII cL cJ) (kW cI cII cL ad K F fr st) (kW cI cII cL ad K F fr) post := by
  refine jr_ofi (cc := bHa_squareTo) (nL := 4) (lv := [(0, .ref (ad 3)), (1, .int l1), (2, .int l2), (3, .int l3)]) (by decide) rfl (Nat.le_of_ble_eq_true rfl) rfl (fun p e s m args below meth c A C hr hlocks => ?_)
  unfold wp_Ha_squareTo at h
  refine jr_aload_n (q := 0) C dHa_squareTo_0 rfl rfl ?_
  refine jr_getf (k := 1) C dHa_squareTo_1 inw_Ha (rfl : kC[3]? = _) (by decide) (List.mem_cons_of_mem _ tm1_97) rfl kA_3 rfl ?_
  refine jr_iload_n (q := 1) C dHa_squareTo_4 rfl rfl ?_
  obtain ⟨h1, h⟩ := h
  refine jr_iald (t0 := 0) C dHa_squareTo_5 kA_12 rfl h1 ?_
  refine jr_iload_n (q := 2) C dHa_squareTo_6 rfl rfl ?_
  refine jr_isub C dHa_squareTo_7 ?_
  refine jr_callSNi (As := [.int ((st 12 (Int32.toNatClampNeg l1)) - l2)]) (rest := []) C (c_KT_square h) ⟨va_cnB 1 C.2.2.2.2.1 (tg_N tm3_12) rfl rfl rfl (C.2.2.2.2.2.2.2 _ (List.mem_of_getElem? (i := 10) rfl)) (C.2.2.2.2.1 _ (List.mem_cons_of_mem _ tm1_1)) ⟨by decide, by decide, by decide⟩ ⟨Nat.le_of_ble_eq_true rfl, Nat.le_of_ble_eq_true rfl⟩, C.2.2.2.2.1 _ (List.mem_cons_of_mem _ tm3_11), trivial⟩ dHa_squareTo_8 rfl rfl (Nat.le_of_ble_eq_true rfl) ⟨Nat.le_of_ble_eq_true rfl, Nat.le_of_ble_eq_true rfl⟩ (fun r3 st2 h => ?_)
  refine jr_aload_n (q := 0) C dHa_squareTo_11 rfl rfl ?_
  refine jr_getf (k := 2) C dHa_squareTo_12 inw_Ha (rfl : kC[3]? = _) (by decide) (List.mem_cons_of_mem _ tm1_98) rfl kA_3 rfl ?_
  refine jr_iload_n (q := 1) C dHa_squareTo_15 rfl rfl ?_
  obtain ⟨h4, h⟩ := h
  refine jr_iald (t0 := 0) C dHa_squareTo_16 kA_13 rfl h4 ?_
  refine jr_iload_n (q := 3) C dHa_squareTo_17 rfl rfl ?_
  refine jr_isub C dHa_squareTo_18 ?_
  refine jr_callSNi (As := [.int ((st2 13 (Int32.toNatClampNeg l1)) - l3)]) (rest := [.int r3]) C (c_KT_square h) ⟨va_cnB 1 C.2.2.2.2.1 (tg_N tm3_12) rfl rfl rfl (C.2.2.2.2.2.2.2 _ (List.mem_of_getElem? (i := 10) rfl)) (C.2.2.2.2.1 _ (List.mem_cons_of_mem _ tm1_1)) ⟨by decide, by decide, by decide⟩ ⟨Nat.le_of_ble_eq_true rfl, Nat.le_of_ble_eq_true rfl⟩, C.2.2.2.2.1 _ (List.mem_cons_of_mem _ tm3_11), trivial⟩ dHa_squareTo_19 rfl rfl (Nat.le_of_ble_eq_true rfl) ⟨Nat.le_of_ble_eq_true rfl, Nat.le_of_ble_eq_true rfl⟩ (fun r6 st5 h => ?_)
  refine jr_iadd C dHa_squareTo_22 ?_
  exact jr_reti C hr hlocks dHa_squareTo_23 h rfl
def wp_Ha_nearestFilled_9 (K F : Nat) (post : Int32 → jS → Prop) : Nat → jS → Int32 → Int32 → Int32 → Int32 → Int32 → Int32 → Prop
  | 0 => fun _ _ _ _ _ _ _ => False
  | n + 1 => fun st x1 x2 x3 x4 x5 x6 => (((st 3 4) ≤ x6 → post x4 st) ∧ (¬ (st 3 4) ≤ x6 → ((x6 = x3 → wp_Ha_nearestFilled_9 K F post n st x1 x2 x3 x4 x5 (x6 + (1 : Int32))) ∧ (¬ x6 = x3 → wp_Ha_allGrams K F st x6 (fun r2 st1 => ((r2 ≤ 0 → wp_Ha_nearestFilled_9 K F post n st1 x1 x2 x3 x4 x5 (x6 + (1 : Int32))) ∧ (¬ r2 ≤ 0 → wp_Ha_squareTo K F st1 x6 x1 x2 (fun r4 st3 => ((x4 = (-1 : Int32) → wp_Ha_nearestFilled_9 K F post n st3 x1 x2 x3 x6 r4 (x6 + (1 : Int32))) ∧ (¬ x4 = (-1 : Int32) → ((x5 ≤ r4 → wp_Ha_nearestFilled_9 K F post n st3 x1 x2 x3 x4 x5 (x6 + (1 : Int32))) ∧ (¬ x5 ≤ r4 → wp_Ha_nearestFilled_9 K F post n st3 x1 x2 x3 x6 r4 (x6 + (1 : Int32))))))))))))))
def wp_Ha_nearestFilled (K F : Nat) (st : jS) (l1 : Int32) (l2 : Int32) (l3 : Int32) (post : Int32 → jS → Prop) : Prop :=
  (∃ n7, wp_Ha_nearestFilled_9 K F post n7 st l1 l2 l3 (-1 : Int32) (0 : Int32) (0 : Int32))
set_option maxRecDepth 100000 in
set_option maxHeartbeats 4000000 in
theorem c_Ha_nearestFilled {st : jS} {l1 : Int32} {l2 : Int32} {l3 : Int32} {post : Int32 → jS → Prop} (h : wp_Ha_nearestFilled K F st l1 l2 l3 post) : jr_Mi l yHa_nearestFilled wHa_nearestFilled ({ frames := 2, cells := 0, slots := 0, locals := 43 }) [.ref (ad 3), .int l1, .int l2, .int l3] D kC (kT cI cII cL cJ) (kW cI cII cL ad K F fr st) (kW cI cII cL ad K F fr) post := by
  refine jr_ofi (cc := bHa_nearestFilled) (nL := 8) (lv := [(0, .ref (ad 3)), (1, .int l1), (2, .int l2), (3, .int l3)]) (by decide) rfl (Nat.le_of_ble_eq_true rfl) rfl (fun p e s m args below meth c A C hr hlocks => ?_)
  unfold wp_Ha_nearestFilled at h
  refine jr_iconst (v := -1) C dHa_nearestFilled_0 (by decide) ?_
  refine jr_istore (lv' := [(4, .int (-1 : Int32)), (0, .ref (ad 3)), (1, .int l1), (2, .int l2), (3, .int l3)]) C dHa_nearestFilled_1 (by decide) rfl ?_
  refine jr_iconst (v := 0) C dHa_nearestFilled_3 (by decide) ?_
  refine jr_istore (lv' := [(5, .int (0 : Int32)), (4, .int (-1 : Int32)), (0, .ref (ad 3)), (1, .int l1), (2, .int l2), (3, .int l3)]) C dHa_nearestFilled_4 (by decide) rfl ?_
  refine jr_iconst (v := 0) C dHa_nearestFilled_6 (by decide) ?_
  refine jr_istore (lv' := [(6, .int (0 : Int32)), (5, .int (0 : Int32)), (4, .int (-1 : Int32)), (0, .ref (ad 3)), (1, .int l1), (2, .int l2), (3, .int l3)]) C dHa_nearestFilled_7 (by decide) rfl ?_
  have lp5 : ∀ (n : Nat) (st : jS) (x1 : Int32) (x2 : Int32) (x3 : Int32) (x4 : Int32) (x5 : Int32) (x6 : Int32), wp_Ha_nearestFilled_9 K F post n st x1 x2 x3 x4 x5 x6 → jr_J p l e (headSpec wHa_nearestFilled ({ frames := 2, cells := 0, slots := 0, locals := 43 })).room s m args below meth c A D kC 8 0 0 (MQ below (va_Qi post (jr_B D kC (kT cI cII cL cJ) (kW cI cII cL ad K F fr) A) A) args s 0 0 A) (kW cI cII cL ad K F fr st) 9 [(0, .ref (ad 3)), (1, .int x1), (2, .int x2), (3, .int x3), (4, .int x4), (5, .int x5), (6, .int x6)] [] := by
    intro n
    induction n with
    | zero => intro st x1 x2 x3 x4 x5 x6 h; exact h.elim
    | succ n ih =>
      intro st x1 x2 x3 x4 x5 x6 h
      unfold wp_Ha_nearestFilled_9 at h
      refine jr_iload (q := 6) C dHa_nearestFilled_9 rfl ?_
      refine jr_aload_n (q := 0) C dHa_nearestFilled_11 rfl rfl ?_
      refine jr_getf (k := 4) C dHa_nearestFilled_12 inw_Ha (rfl : kC[3]? = _) (by decide) (List.mem_cons_of_mem _ tm1_101) rfl kA_3 rfl ?_
      refine jr_icmp_ge (tgt := 70) C dHa_nearestFilled_15 (by decide) (fun z => ?_) (fun z => ?_)
      · have h := h.1 z
        refine jr_iload (q := 4) C dHa_nearestFilled_70 rfl ?_
        exact jr_reti C hr hlocks dHa_nearestFilled_72 h rfl
      · have h := h.2 z
        refine jr_iload (q := 6) C dHa_nearestFilled_18 rfl ?_
        refine jr_iload_n (q := 3) C dHa_nearestFilled_20 rfl rfl ?_
        refine jr_icmp_eq (tgt := 64) C dHa_nearestFilled_21 (by decide) (fun z => ?_) (fun z => ?_)
        · have h := h.1 z
          refine jr_iinc (q := 6) (v := (x6 + (1 : Int32))) (lv' := [(6, .int (x6 + (1 : Int32))), (0, .ref (ad 3)), (1, .int x1), (2, .int x2), (3, .int x3), (4, .int x4), (5, .int x5)]) C dHa_nearestFilled_64 rfl rfl (by decide) rfl ?_
          refine jr_goto (tgt := 9) C dHa_nearestFilled_67 (by decide) ?_
          refine jr_lv (lv' := [(0, .ref (ad 3)), (1, .int x1), (2, .int x2), (3, .int x3), (4, .int x4), (5, .int x5), (6, .int (x6 + (1 : Int32)))]) [1, 2, 3, 4, 5, 6, 0] rfl ?_
          exact ih st x1 x2 x3 x4 x5 (x6 + (1 : Int32)) h
        · have h := h.2 z
          refine jr_aload_n (q := 0) C dHa_nearestFilled_24 rfl rfl ?_
          refine jr_iload (q := 6) C dHa_nearestFilled_25 rfl ?_
          refine jr_callVi (As := [.int x6]) (rest := []) C (c_Ha_allGrams h) (cwV 1 C.2.2.2.2.1 (tg_V tm3_63 tm3_65 tp_14 tm1_5 tm3_66) rfl rfl rfl ⟨rfl, by decide, by decide, by decide⟩ ⟨Nat.le_of_ble_eq_true rfl, Nat.le_of_ble_eq_true rfl⟩) dHa_nearestFilled_27 (rfl : kC[3]? = _) kA_3 rfl rfl (Nat.le_of_ble_eq_true rfl) ⟨Nat.le_of_ble_eq_true rfl, Nat.le_of_ble_eq_true rfl⟩ (fun r2 st1 h => ?_)
          refine jr_if_le (tgt := 64) C dHa_nearestFilled_30 (by decide) (fun z => ?_) (fun z => ?_)
          · have h := h.1 z
            refine jr_iinc (q := 6) (v := (x6 + (1 : Int32))) (lv' := [(6, .int (x6 + (1 : Int32))), (0, .ref (ad 3)), (1, .int x1), (2, .int x2), (3, .int x3), (4, .int x4), (5, .int x5)]) C dHa_nearestFilled_64 rfl rfl (by decide) rfl ?_
            refine jr_goto (tgt := 9) C dHa_nearestFilled_67 (by decide) ?_
            refine jr_lv (lv' := [(0, .ref (ad 3)), (1, .int x1), (2, .int x2), (3, .int x3), (4, .int x4), (5, .int x5), (6, .int (x6 + (1 : Int32)))]) [1, 2, 3, 4, 5, 6, 0] rfl ?_
            exact ih st1 x1 x2 x3 x4 x5 (x6 + (1 : Int32)) h
          · have h := h.2 z
            refine jr_aload_n (q := 0) C dHa_nearestFilled_33 rfl rfl ?_
            refine jr_iload (q := 6) C dHa_nearestFilled_34 rfl ?_
            refine jr_iload_n (q := 1) C dHa_nearestFilled_36 rfl rfl ?_
            refine jr_iload_n (q := 2) C dHa_nearestFilled_37 rfl rfl ?_
            refine jr_callVi (As := [.int x6, .int x1, .int x2]) (rest := []) C (c_Ha_squareTo h) (cwV 3 C.2.2.2.2.1 (tg_V tm3_67 tm3_69 tp_15 tm1_5 tm3_70) rfl rfl rfl ⟨rfl, by decide, by decide, by decide⟩ ⟨Nat.le_of_ble_eq_true rfl, Nat.le_of_ble_eq_true rfl⟩) dHa_nearestFilled_38 (rfl : kC[3]? = _) kA_3 rfl rfl (Nat.le_of_ble_eq_true rfl) ⟨Nat.le_of_ble_eq_true rfl, Nat.le_of_ble_eq_true rfl⟩ (fun r4 st3 h => ?_)
            refine jr_istore (lv' := [(7, .int r4), (0, .ref (ad 3)), (1, .int x1), (2, .int x2), (3, .int x3), (4, .int x4), (5, .int x5), (6, .int x6)]) C dHa_nearestFilled_41 (by decide) rfl ?_
            refine jr_iload (q := 5) C dHa_nearestFilled_43 rfl ?_
            refine jr_iconst (v := -1) C dHa_nearestFilled_45 (by decide) ?_
            refine jr_icmp_eq (tgt := 56) C dHa_nearestFilled_46 (by decide) (fun z => ?_) (fun z => ?_)
            · have h := h.1 z
              refine jr_iload (q := 7) C dHa_nearestFilled_56 rfl ?_
              refine jr_istore (lv' := [(4, .int x6), (7, .int r4), (0, .ref (ad 3)), (1, .int x1), (2, .int x2), (3, .int x3), (5, .int x5), (6, .int x6)]) C dHa_nearestFilled_58 (by decide) rfl ?_
              refine jr_iload (q := 1) C dHa_nearestFilled_60 rfl ?_
              refine jr_istore (lv' := [(5, .int r4), (4, .int x6), (7, .int r4), (0, .ref (ad 3)), (1, .int x1), (2, .int x2), (3, .int x3), (6, .int x6)]) C dHa_nearestFilled_62 (by decide) rfl ?_
              refine jr_iinc (q := 7) (v := (x6 + (1 : Int32))) (lv' := [(6, .int (x6 + (1 : Int32))), (5, .int r4), (4, .int x6), (7, .int r4), (0, .ref (ad 3)), (1, .int x1), (2, .int x2), (3, .int x3)]) C dHa_nearestFilled_64 rfl rfl (by decide) rfl ?_
              refine jr_goto (tgt := 9) C dHa_nearestFilled_67 (by decide) ?_
              refine jr_lv (lv' := [(0, .ref (ad 3)), (1, .int x1), (2, .int x2), (3, .int x3), (4, .int x6), (5, .int r4), (6, .int (x6 + (1 : Int32)))]) [4, 5, 6, 7, 2, 1, 0] rfl ?_
              exact ih st3 x1 x2 x3 x6 r4 (x6 + (1 : Int32)) h
            · have h := h.2 z
              refine jr_iload (q := 0) C dHa_nearestFilled_49 rfl ?_
              refine jr_iload (q := 6) C dHa_nearestFilled_51 rfl ?_
              refine jr_icmp_ge (tgt := 64) C dHa_nearestFilled_53 (by decide) (fun z => ?_) (fun z => ?_)
              · have h := h.1 z
                refine jr_iinc (q := 7) (v := (x6 + (1 : Int32))) (lv' := [(6, .int (x6 + (1 : Int32))), (7, .int r4), (0, .ref (ad 3)), (1, .int x1), (2, .int x2), (3, .int x3), (4, .int x4), (5, .int x5)]) C dHa_nearestFilled_64 rfl rfl (by decide) rfl ?_
                refine jr_goto (tgt := 9) C dHa_nearestFilled_67 (by decide) ?_
                refine jr_lv (lv' := [(0, .ref (ad 3)), (1, .int x1), (2, .int x2), (3, .int x3), (4, .int x4), (5, .int x5), (6, .int (x6 + (1 : Int32)))]) [2, 3, 4, 5, 6, 7, 0] rfl ?_
                exact ih st3 x1 x2 x3 x4 x5 (x6 + (1 : Int32)) h
              · have h := h.2 z
                refine jr_iload (q := 7) C dHa_nearestFilled_56 rfl ?_
                refine jr_istore (lv' := [(4, .int x6), (7, .int r4), (0, .ref (ad 3)), (1, .int x1), (2, .int x2), (3, .int x3), (5, .int x5), (6, .int x6)]) C dHa_nearestFilled_58 (by decide) rfl ?_
                refine jr_iload (q := 1) C dHa_nearestFilled_60 rfl ?_
                refine jr_istore (lv' := [(5, .int r4), (4, .int x6), (7, .int r4), (0, .ref (ad 3)), (1, .int x1), (2, .int x2), (3, .int x3), (6, .int x6)]) C dHa_nearestFilled_62 (by decide) rfl ?_
                refine jr_iinc (q := 7) (v := (x6 + (1 : Int32))) (lv' := [(6, .int (x6 + (1 : Int32))), (5, .int r4), (4, .int x6), (7, .int r4), (0, .ref (ad 3)), (1, .int x1), (2, .int x2), (3, .int x3)]) C dHa_nearestFilled_64 rfl rfl (by decide) rfl ?_
                refine jr_goto (tgt := 9) C dHa_nearestFilled_67 (by decide) ?_
                refine jr_lv (lv' := [(0, .ref (ad 3)), (1, .int x1), (2, .int x2), (3, .int x3), (4, .int x6), (5, .int r4), (6, .int (x6 + (1 : Int32)))]) [4, 5, 6, 7, 2, 1, 0] rfl ?_
                exact ih st3 x1 x2 x3 x6 r4 (x6 + (1 : Int32)) h
  obtain ⟨n6, h⟩ := h
  refine jr_lv (lv' := [(0, .ref (ad 3)), (1, .int l1), (2, .int l2), (3, .int l3), (4, .int (-1 : Int32)), (5, .int (0 : Int32)), (6, .int (0 : Int32))]) [3, 4, 5, 6, 2, 1, 0] rfl ?_
  exact lp5 n6 st l1 l2 l3 (-1 : Int32) (0 : Int32) (0 : Int32) h
def wp_KT_commonDivisor_9 (K F : Nat) (post : Int64 → jS → Prop) : Nat → jS → Int64 → Int64 → Int64 → Int64 → Int32 → Prop
  | 0 => fun _ _ _ _ _ _ => False
  | n + 1 => fun st x0 x2 x4 x6 x8 => (((1000 : Int32) ≤ x8 → post x4 st) ∧ (¬ (1000 : Int32) ≤ x8 → (((lg_cmp x6 (0 : Int64)) = 0 → post x4 st) ∧ (¬ (lg_cmp x6 (0 : Int64)) = 0 → (¬ x6 = 0) ∧ wp_KT_commonDivisor_9 K F post n st x0 x2 x6 (x4 - x4 / x6 * x6) (x8 + (1 : Int32))))))
def wp_KT_commonDivisor (K F : Nat) (st : jS) (l0 : Int64) (l2 : Int64) (post : Int64 → jS → Prop) : Prop :=
  (∃ n4, wp_KT_commonDivisor_9 K F post n4 st l0 l2 l0 l2 (0 : Int32))
set_option maxRecDepth 100000 in
set_option maxHeartbeats 4000000 in
theorem c_KT_commonDivisor {st : jS} {l0 : Int64} {l2 : Int64} {post : Int64 → jS → Prop} (h : wp_KT_commonDivisor K F st l0 l2 post) : jr_Ml l yKT_commonDivisor wKT_commonDivisor ({ frames := 0, cells := 0, slots := 0, locals := 0 }) [.long l0, .long l2] D kC (kT cI cII cL cJ) (kW cI cII cL ad K F fr st) (kW cI cII cL ad K F fr) post := by
  refine jr_ofl (cc := bKT_commonDivisor) (nL := 11) (lv := [(0, .long l0), (2, .long l2)]) (by decide) rfl (Nat.le_of_ble_eq_true rfl) rfl (fun p e s m args below meth c A C hr hlocks => ?_)
  unfold wp_KT_commonDivisor at h
  refine jr_lload_n (q := 0) C dKT_commonDivisor_0 rfl rfl ?_
  refine jr_lstore (lv' := [(4, .long l0), (0, .long l0), (2, .long l2)]) C dKT_commonDivisor_1 (by decide) rfl ?_
  refine jr_lload_n (q := 2) C dKT_commonDivisor_3 rfl rfl ?_
  refine jr_lstore (lv' := [(6, .long l2), (4, .long l0), (0, .long l0), (2, .long l2)]) C dKT_commonDivisor_4 (by decide) rfl ?_
  refine jr_iconst (v := 0) C dKT_commonDivisor_6 (by decide) ?_
  refine jr_istore (lv' := [(8, .int (0 : Int32)), (6, .long l2), (4, .long l0), (0, .long l0), (2, .long l2)]) C dKT_commonDivisor_7 (by decide) rfl ?_
  have lp2 : ∀ (n : Nat) (st : jS) (x0 : Int64) (x2 : Int64) (x4 : Int64) (x6 : Int64) (x8 : Int32), wp_KT_commonDivisor_9 K F post n st x0 x2 x4 x6 x8 → jr_J p l e (headSpec wKT_commonDivisor ({ frames := 0, cells := 0, slots := 0, locals := 0 })).room s m args below meth c A D kC 11 0 0 (MQ below (va_Ql post (jr_B D kC (kT cI cII cL cJ) (kW cI cII cL ad K F fr) A) A) args s 0 0 A) (kW cI cII cL ad K F fr st) 9 [(0, .long x0), (2, .long x2), (4, .long x4), (6, .long x6), (8, .int x8)] [] := by
    intro n
    induction n with
    | zero => intro st x0 x2 x4 x6 x8 h; exact h.elim
    | succ n ih =>
      intro st x0 x2 x4 x6 x8 h
      unfold wp_KT_commonDivisor_9 at h
      refine jr_iload (q := 4) C dKT_commonDivisor_9 rfl ?_
      refine jr_sipush (v := 1000) C dKT_commonDivisor_11 (by decide) ?_
      refine jr_icmp_ge (tgt := 45) C dKT_commonDivisor_14 (by decide) (fun z => ?_) (fun z => ?_)
      · have h := h.1 z
        refine jr_lload (q := 2) C dKT_commonDivisor_45 rfl ?_
        exact jr_retl C hr hlocks dKT_commonDivisor_47 h rfl
      · have h := h.2 z
        refine jr_lload (q := 3) C dKT_commonDivisor_17 rfl ?_
        refine jr_lconst (v := 0) C dKT_commonDivisor_19 (by decide) ?_
        refine jr_lcmp C dKT_commonDivisor_20 ?_
        refine jr_if_eq (tgt := 45) C dKT_commonDivisor_21 (by decide) (fun z => ?_) (fun z => ?_)
        · have h := h.1 z
          refine jr_lload (q := 2) C dKT_commonDivisor_45 rfl ?_
          exact jr_retl C hr hlocks dKT_commonDivisor_47 h rfl
        · have h := h.2 z
          refine jr_lload (q := 2) C dKT_commonDivisor_24 rfl ?_
          refine jr_lload (q := 3) C dKT_commonDivisor_26 rfl ?_
          obtain ⟨h1, h⟩ := h
          refine jr_lrem C dKT_commonDivisor_28 h1 ?_
          refine jr_lstore (lv' := [(9, .long (x4 - x4 / x6 * x6)), (0, .long x0), (2, .long x2), (4, .long x4), (6, .long x6), (8, .int x8)]) C dKT_commonDivisor_29 (by decide) rfl ?_
          refine jr_lload (q := 4) C dKT_commonDivisor_31 rfl ?_
          refine jr_lstore (lv' := [(4, .long x6), (9, .long (x4 - x4 / x6 * x6)), (0, .long x0), (2, .long x2), (6, .long x6), (8, .int x8)]) C dKT_commonDivisor_33 (by decide) rfl ?_
          refine jr_lload (q := 1) C dKT_commonDivisor_35 rfl ?_
          refine jr_lstore (lv' := [(6, .long (x4 - x4 / x6 * x6)), (4, .long x6), (9, .long (x4 - x4 / x6 * x6)), (0, .long x0), (2, .long x2), (8, .int x8)]) C dKT_commonDivisor_37 (by decide) rfl ?_
          refine jr_iinc (q := 5) (v := (x8 + (1 : Int32))) (lv' := [(8, .int (x8 + (1 : Int32))), (6, .long (x4 - x4 / x6 * x6)), (4, .long x6), (9, .long (x4 - x4 / x6 * x6)), (0, .long x0), (2, .long x2)]) C dKT_commonDivisor_39 rfl rfl (by decide) rfl ?_
          refine jr_goto (tgt := 9) C dKT_commonDivisor_42 (by decide) ?_
          refine jr_lv (lv' := [(0, .long x0), (2, .long x2), (4, .long x6), (6, .long (x4 - x4 / x6 * x6)), (8, .int (x8 + (1 : Int32)))]) [4, 5, 2, 1, 0] rfl ?_
          exact ih st x0 x2 x6 (x4 - x4 / x6 * x6) (x8 + (1 : Int32)) h
  obtain ⟨n3, h⟩ := h
  refine jr_lv (lv' := [(0, .long l0), (2, .long l2), (4, .long l0), (6, .long l2), (8, .int (0 : Int32))]) [3, 4, 2, 1, 0] rfl ?_
  exact lp2 n3 st l0 l2 l0 l2 (0 : Int32) h
def wp_KT_partOf (K F : Nat) (st : jS) (l0 : Int64) (l2 : Int64) (l4 : Int32) (post : Int64 → jS → Prop) : Prop :=
  wp_KT_commonDivisor K F st l0 l2 (fun r2 st1 => (((lg_cmp l2 (1 : Int64)) < 0 → ((¬ l4 = 0 → post (1 : Int64) st1) ∧ (l4 = 0 → post (0 : Int64) st1))) ∧ (¬ (lg_cmp l2 (1 : Int64)) < 0 → ((0 ≤ (lg_cmp r2 (1 : Int64)) → ((¬ l4 = 0 → (¬ r2 = 0) ∧ post (l2 / r2) st1) ∧ (l4 = 0 → (¬ r2 = 0) ∧ post (l0 / r2) st1))) ∧ (¬ 0 ≤ (lg_cmp r2 (1 : Int64)) → ((¬ l4 = 0 → post (1 : Int64) st1) ∧ (l4 = 0 → post (0 : Int64) st1)))))))
set_option maxRecDepth 100000 in
set_option maxHeartbeats 4000000 in
theorem c_KT_partOf {st : jS} {l0 : Int64} {l2 : Int64} {l4 : Int32} {post : Int64 → jS → Prop} (h : wp_KT_partOf K F st l0 l2 l4 post) : jr_Ml l yKT_partOf wKT_partOf ({ frames := 1, cells := 0, slots := 0, locals := 30 }) [.long l0, .long l2, .int l4] D kC (kT cI cII cL cJ) (kW cI cII cL ad K F fr st) (kW cI cII cL ad K F fr) post := by
  refine jr_ofl (cc := bKT_partOf) (nL := 7) (lv := [(0, .long l0), (2, .long l2), (4, .int l4)]) (by decide) rfl (Nat.le_of_ble_eq_true rfl) rfl (fun p e s m args below meth c A C hr hlocks => ?_)
  unfold wp_KT_partOf at h
  refine jr_lload_n (q := 0) C dKT_partOf_0 rfl rfl ?_
  refine jr_lload_n (q := 1) C dKT_partOf_1 rfl rfl ?_
  refine jr_callSl (As := [.long l0, .long l2]) (rest := []) C (c_KT_commonDivisor h) (va_cwS 2 C.2.2.2.2.1 (tg_S tm2_173 tm2_174 tm1_1 tm2_175) rfl rfl rfl ⟨by decide, by decide, by decide⟩ ⟨Nat.le_of_ble_eq_true rfl, Nat.le_of_ble_eq_true rfl⟩) dKT_partOf_2 rfl rfl (Nat.le_of_ble_eq_true rfl) ⟨Nat.le_of_ble_eq_true rfl, Nat.le_of_ble_eq_true rfl⟩ (fun r2 st1 h => ?_)
  refine jr_lstore (lv' := [(5, .long r2), (0, .long l0), (2, .long l2), (4, .int l4)]) C dKT_partOf_5 (by decide) rfl ?_
  refine jr_lload_n (q := 2) C dKT_partOf_7 rfl rfl ?_
  refine jr_lconst (v := 1) C dKT_partOf_8 (by decide) ?_
  refine jr_lcmp C dKT_partOf_9 ?_
  refine jr_if_lt (tgt := 20) C dKT_partOf_10 (by decide) (fun z => ?_) (fun z => ?_)
  · have h := h.1 z
    refine jr_iload (q := 3) C dKT_partOf_20 rfl ?_
    refine jr_if_ne (tgt := 29) C dKT_partOf_22 (by decide) (fun z => ?_) (fun z => ?_)
    · have h := h.1 z
      refine jr_lconst (v := 1) C dKT_partOf_29 (by decide) ?_
      exact jr_retl C hr hlocks dKT_partOf_30 h rfl
    · have h := h.2 z
      refine jr_lconst (v := 0) C dKT_partOf_25 (by decide) ?_
      refine jr_goto (tgt := 30) C dKT_partOf_26 (by decide) ?_
      exact jr_retl C hr hlocks dKT_partOf_30 h rfl
  · have h := h.2 z
    refine jr_lload (q := 0) C dKT_partOf_13 rfl ?_
    refine jr_lconst (v := 1) C dKT_partOf_15 (by decide) ?_
    refine jr_lcmp C dKT_partOf_16 ?_
    refine jr_if_ge (tgt := 31) C dKT_partOf_17 (by decide) (fun z => ?_) (fun z => ?_)
    · have h := h.1 z
      refine jr_iload (q := 3) C dKT_partOf_31 rfl ?_
      refine jr_if_ne (tgt := 43) C dKT_partOf_33 (by decide) (fun z => ?_) (fun z => ?_)
      · have h := h.1 z
        refine jr_lload_n (q := 2) C dKT_partOf_43 rfl rfl ?_
        refine jr_lload (q := 0) C dKT_partOf_44 rfl ?_
        obtain ⟨h3, h⟩ := h
        refine jr_ldiv C dKT_partOf_46 h3 ?_
        exact jr_retl C hr hlocks dKT_partOf_47 h rfl
      · have h := h.2 z
        refine jr_lload_n (q := 1) C dKT_partOf_36 rfl rfl ?_
        refine jr_lload (q := 0) C dKT_partOf_37 rfl ?_
        obtain ⟨h4, h⟩ := h
        refine jr_ldiv C dKT_partOf_39 h4 ?_
        refine jr_goto (tgt := 47) C dKT_partOf_40 (by decide) ?_
        exact jr_retl C hr hlocks dKT_partOf_47 h rfl
    · have h := h.2 z
      refine jr_iload (q := 3) C dKT_partOf_20 rfl ?_
      refine jr_if_ne (tgt := 29) C dKT_partOf_22 (by decide) (fun z => ?_) (fun z => ?_)
      · have h := h.1 z
        refine jr_lconst (v := 1) C dKT_partOf_29 (by decide) ?_
        exact jr_retl C hr hlocks dKT_partOf_30 h rfl
      · have h := h.2 z
        refine jr_lconst (v := 0) C dKT_partOf_25 (by decide) ?_
        refine jr_goto (tgt := 30) C dKT_partOf_26 (by decide) ?_
        exact jr_retl C hr hlocks dKT_partOf_30 h rfl
def wp_Ha_sharePart (K F : Nat) (st : jS) (l1 : Int32) (l2 : Int32) (l3 : Int32) (l4 : Int32) (post : Int64 → jS → Prop) : Prop :=
  wp_Ha_nearestFilled K F st l1 l2 (-1 : Int32) (fun r2 st1 => ((¬ r2 = (-1 : Int32) → wp_Ha_nearestFilled K F st1 l1 l2 r2 (fun r4 st3 => ((¬ r4 = (-1 : Int32) → wp_Ha_squareTo K F st3 r4 l1 l2 (fun r6 st5 => wp_Ha_squareTo K F st5 r2 l1 l2 (fun r8 st7 => wp_Ha_allGrams K F st7 r2 (fun r10 st9 => wp_Ha_allGrams K F st9 r4 (fun r12 st11 => vp_in r2 12 ∧ vp_in l3 K ∧ vp_in r4 12 ∧ vp_in l3 K ∧ wp_KT_partOf K F st11 ((((Int32.toInt64 (st11 (39 + (Int32.toNatClampNeg r2)) (Int32.toNatClampNeg l3))) * (Int32.toInt64 r12)) * (Int32.toInt64 (r6 + (1 : Int32)))) + (((Int32.toInt64 (st11 (39 + (Int32.toNatClampNeg r4)) (Int32.toNatClampNeg l3))) * (Int32.toInt64 r10)) * (Int32.toInt64 (r8 + (1 : Int32))))) (((Int32.toInt64 r10) * (Int32.toInt64 r12)) * ((Int32.toInt64 (r6 + (1 : Int32))) + (Int32.toInt64 (r8 + (1 : Int32))))) l4 (fun r18 st17 => post r18 st17)))))) ∧ (r4 = (-1 : Int32) → vp_in r2 12 ∧ vp_in l3 K ∧ wp_Ha_allGrams K F st3 r2 (fun r22 st21 => wp_KT_partOf K F st21 (Int32.toInt64 (st3 (39 + (Int32.toNatClampNeg r2)) (Int32.toNatClampNeg l3))) (Int32.toInt64 r22) l4 (fun r24 st23 => post r24 st23)))))) ∧ (r2 = (-1 : Int32) → wp_KT_partOf K F st1 (0 : Int64) (0 : Int64) l4 (fun r26 st25 => post r26 st25))))
set_option maxRecDepth 100000 in
set_option maxHeartbeats 4000000 in
theorem c_Ha_sharePart {st : jS} {l1 : Int32} {l2 : Int32} {l3 : Int32} {l4 : Int32} {post : Int64 → jS → Prop} (h : wp_Ha_sharePart K F st l1 l2 l3 l4 post) : jr_Ml l yHa_sharePart wHa_sharePart ({ frames := 3, cells := 0, slots := 0, locals := 70 }) [.ref (ad 3), .int l1, .int l2, .int l3, .int l4] D kC (kT cI cII cL cJ) (kW cI cII cL ad K F fr st) (kW cI cII cL ad K F fr) post := by
  refine jr_ofl (cc := bHa_sharePart) (nL := 17) (lv := [(0, .ref (ad 3)), (1, .int l1), (2, .int l2), (3, .int l3), (4, .int l4)]) (by decide) rfl (Nat.le_of_ble_eq_true rfl) rfl (fun p e s m args below meth c A C hr hlocks => ?_)
  unfold wp_Ha_sharePart at h
  refine jr_aload_n (q := 0) C dHa_sharePart_0 rfl rfl ?_
  refine jr_iload_n (q := 1) C dHa_sharePart_1 rfl rfl ?_
  refine jr_iload_n (q := 2) C dHa_sharePart_2 rfl rfl ?_
  refine jr_iconst (v := -1) C dHa_sharePart_3 (by decide) ?_
  refine jr_callVi (As := [.int l1, .int l2, .int (-1 : Int32)]) (rest := []) C (c_Ha_nearestFilled h) (cwV 3 C.2.2.2.2.1 (tg_V tm3_59 tm3_61 tp_13 tm1_5 tm3_62) rfl rfl rfl ⟨rfl, by decide, by decide, by decide⟩ ⟨Nat.le_of_ble_eq_true rfl, Nat.le_of_ble_eq_true rfl⟩) dHa_sharePart_4 (rfl : kC[3]? = _) kA_3 rfl rfl (Nat.le_of_ble_eq_true rfl) ⟨Nat.le_of_ble_eq_true rfl, Nat.le_of_ble_eq_true rfl⟩ (fun r2 st1 h => ?_)
  refine jr_istore (lv' := [(5, .int r2), (0, .ref (ad 3)), (1, .int l1), (2, .int l2), (3, .int l3), (4, .int l4)]) C dHa_sharePart_7 (by decide) rfl ?_
  refine jr_iload (q := 0) C dHa_sharePart_9 rfl ?_
  refine jr_iconst (v := -1) C dHa_sharePart_11 (by decide) ?_
  refine jr_icmp_ne (tgt := 23) C dHa_sharePart_12 (by decide) (fun z => ?_) (fun z => ?_)
  · have h := h.1 z
    refine jr_aload_n (q := 1) C dHa_sharePart_23 rfl rfl ?_
    refine jr_iload_n (q := 2) C dHa_sharePart_24 rfl rfl ?_
    refine jr_iload_n (q := 3) C dHa_sharePart_25 rfl rfl ?_
    refine jr_iload (q := 0) C dHa_sharePart_26 rfl ?_
    refine jr_callVi (As := [.int l1, .int l2, .int r2]) (rest := []) C (c_Ha_nearestFilled h) (cwV 3 C.2.2.2.2.1 (tg_V tm3_59 tm3_61 tp_13 tm1_5 tm3_62) rfl rfl rfl ⟨rfl, by decide, by decide, by decide⟩ ⟨Nat.le_of_ble_eq_true rfl, Nat.le_of_ble_eq_true rfl⟩) dHa_sharePart_28 (rfl : kC[3]? = _) kA_3 rfl rfl (Nat.le_of_ble_eq_true rfl) ⟨Nat.le_of_ble_eq_true rfl, Nat.le_of_ble_eq_true rfl⟩ (fun r4 st3 h => ?_)
    refine jr_istore (lv' := [(6, .int r4), (5, .int r2), (0, .ref (ad 3)), (1, .int l1), (2, .int l2), (3, .int l3), (4, .int l4)]) C dHa_sharePart_31 (by decide) rfl ?_
    refine jr_iload (q := 0) C dHa_sharePart_33 rfl ?_
    refine jr_iconst (v := -1) C dHa_sharePart_35 (by decide) ?_
    refine jr_icmp_ne (tgt := 62) C dHa_sharePart_36 (by decide) (fun z => ?_) (fun z => ?_)
    · have h := h.1 z
      refine jr_aload_n (q := 2) C dHa_sharePart_62 rfl rfl ?_
      refine jr_iload (q := 0) C dHa_sharePart_63 rfl ?_
      refine jr_iload_n (q := 3) C dHa_sharePart_65 rfl rfl ?_
      refine jr_iload_n (q := 4) C dHa_sharePart_66 rfl rfl ?_
      refine jr_callVi (As := [.int r4, .int l1, .int l2]) (rest := []) C (c_Ha_squareTo h) (cwV 3 C.2.2.2.2.1 (tg_V tm3_67 tm3_69 tp_15 tm1_5 tm3_70) rfl rfl rfl ⟨rfl, by decide, by decide, by decide⟩ ⟨Nat.le_of_ble_eq_true rfl, Nat.le_of_ble_eq_true rfl⟩) dHa_sharePart_67 (rfl : kC[3]? = _) kA_3 rfl rfl (Nat.le_of_ble_eq_true rfl) ⟨Nat.le_of_ble_eq_true rfl, Nat.le_of_ble_eq_true rfl⟩ (fun r6 st5 h => ?_)
      refine jr_iconst (v := 1) C dHa_sharePart_70 (by decide) ?_
      refine jr_iadd C dHa_sharePart_71 ?_
      refine jr_i2l C dHa_sharePart_72 ?_
      refine jr_lstore (lv' := [(7, .long (Int32.toInt64 (r6 + (1 : Int32)))), (6, .int r4), (5, .int r2), (0, .ref (ad 3)), (1, .int l1), (2, .int l2), (3, .int l3), (4, .int l4)]) C dHa_sharePart_73 (by decide) rfl ?_
      refine jr_aload_n (q := 3) C dHa_sharePart_75 rfl rfl ?_
      refine jr_iload (q := 2) C dHa_sharePart_76 rfl ?_
      refine jr_iload_n (q := 4) C dHa_sharePart_78 rfl rfl ?_
      refine jr_iload_n (q := 5) C dHa_sharePart_79 rfl rfl ?_
      refine jr_callVi (As := [.int r2, .int l1, .int l2]) (rest := []) C (c_Ha_squareTo h) (cwV 3 C.2.2.2.2.1 (tg_V tm3_67 tm3_69 tp_15 tm1_5 tm3_70) rfl rfl rfl ⟨rfl, by decide, by decide, by decide⟩ ⟨Nat.le_of_ble_eq_true rfl, Nat.le_of_ble_eq_true rfl⟩) dHa_sharePart_80 (rfl : kC[3]? = _) kA_3 rfl rfl (Nat.le_of_ble_eq_true rfl) ⟨Nat.le_of_ble_eq_true rfl, Nat.le_of_ble_eq_true rfl⟩ (fun r8 st7 h => ?_)
      refine jr_iconst (v := 1) C dHa_sharePart_83 (by decide) ?_
      refine jr_iadd C dHa_sharePart_84 ?_
      refine jr_i2l C dHa_sharePart_85 ?_
      refine jr_lstore (lv' := [(9, .long (Int32.toInt64 (r8 + (1 : Int32)))), (7, .long (Int32.toInt64 (r6 + (1 : Int32)))), (6, .int r4), (5, .int r2), (0, .ref (ad 3)), (1, .int l1), (2, .int l2), (3, .int l3), (4, .int l4)]) C dHa_sharePart_86 (by decide) rfl ?_
      refine jr_aload_n (q := 4) C dHa_sharePart_88 rfl rfl ?_
      refine jr_iload (q := 3) C dHa_sharePart_89 rfl ?_
      refine jr_callVi (As := [.int r2]) (rest := []) C (c_Ha_allGrams h) (cwV 1 C.2.2.2.2.1 (tg_V tm3_63 tm3_65 tp_14 tm1_5 tm3_66) rfl rfl rfl ⟨rfl, by decide, by decide, by decide⟩ ⟨Nat.le_of_ble_eq_true rfl, Nat.le_of_ble_eq_true rfl⟩) dHa_sharePart_91 (rfl : kC[3]? = _) kA_3 rfl rfl (Nat.le_of_ble_eq_true rfl) ⟨Nat.le_of_ble_eq_true rfl, Nat.le_of_ble_eq_true rfl⟩ (fun r10 st9 h => ?_)
      refine jr_i2l C dHa_sharePart_94 ?_
      refine jr_lstore (lv' := [(11, .long (Int32.toInt64 r10)), (9, .long (Int32.toInt64 (r8 + (1 : Int32)))), (7, .long (Int32.toInt64 (r6 + (1 : Int32)))), (6, .int r4), (5, .int r2), (0, .ref (ad 3)), (1, .int l1), (2, .int l2), (3, .int l3), (4, .int l4)]) C dHa_sharePart_95 (by decide) rfl ?_
      refine jr_aload_n (q := 5) C dHa_sharePart_97 rfl rfl ?_
      refine jr_iload (q := 3) C dHa_sharePart_98 rfl ?_
      refine jr_callVi (As := [.int r4]) (rest := []) C (c_Ha_allGrams h) (cwV 1 C.2.2.2.2.1 (tg_V tm3_63 tm3_65 tp_14 tm1_5 tm3_66) rfl rfl rfl ⟨rfl, by decide, by decide, by decide⟩ ⟨Nat.le_of_ble_eq_true rfl, Nat.le_of_ble_eq_true rfl⟩) dHa_sharePart_100 (rfl : kC[3]? = _) kA_3 rfl rfl (Nat.le_of_ble_eq_true rfl) ⟨Nat.le_of_ble_eq_true rfl, Nat.le_of_ble_eq_true rfl⟩ (fun r12 st11 h => ?_)
      refine jr_i2l C dHa_sharePart_103 ?_
      refine jr_lstore (lv' := [(13, .long (Int32.toInt64 r12)), (11, .long (Int32.toInt64 r10)), (9, .long (Int32.toInt64 (r8 + (1 : Int32)))), (7, .long (Int32.toInt64 (r6 + (1 : Int32)))), (6, .int r4), (5, .int r2), (0, .ref (ad 3)), (1, .int l1), (2, .int l2), (3, .int l3), (4, .int l4)]) C dHa_sharePart_104 (by decide) rfl ?_
      refine jr_aload_n (q := 6) C dHa_sharePart_106 rfl rfl ?_
      refine jr_getf (k := 3) C dHa_sharePart_107 inw_Ha (rfl : kC[3]? = _) (by decide) (List.mem_cons_of_mem _ tm1_99) rfl kA_3 rfl ?_
      refine jr_iload (q := 5) C dHa_sharePart_110 rfl ?_
      obtain ⟨h13, h⟩ := h
      refine jr_alda (t0 := 1) C dHa_sharePart_112 kA_14 rfl h13 (kE_cat h13) ?_
      refine jr_iload_n (q := 9) C dHa_sharePart_113 rfl rfl ?_
      obtain ⟨h14, h⟩ := h
      refine jr_iald (t0 := 0) C dHa_sharePart_114 (kA_rowcat h13) rfl h14 ?_
      refine jr_i2l C dHa_sharePart_115 ?_
      refine jr_lload (q := 0) C dHa_sharePart_116 rfl ?_
      refine jr_lmul C dHa_sharePart_118 ?_
      refine jr_lload (q := 3) C dHa_sharePart_119 rfl ?_
      refine jr_lmul C dHa_sharePart_121 ?_
      refine jr_aload_n (q := 6) C dHa_sharePart_122 rfl rfl ?_
      refine jr_getf (k := 3) C dHa_sharePart_123 inw_Ha (rfl : kC[3]? = _) (by decide) (List.mem_cons_of_mem _ tm1_99) rfl kA_3 rfl ?_
      refine jr_iload (q := 4) C dHa_sharePart_126 rfl ?_
      obtain ⟨h15, h⟩ := h
      refine jr_alda (t0 := 1) C dHa_sharePart_128 kA_14 rfl h15 (kE_cat h15) ?_
      refine jr_iload_n (q := 9) C dHa_sharePart_129 rfl rfl ?_
      obtain ⟨h16, h⟩ := h
      refine jr_iald (t0 := 0) C dHa_sharePart_130 (kA_rowcat h15) rfl h16 ?_
      refine jr_i2l C dHa_sharePart_131 ?_
      refine jr_lload (q := 1) C dHa_sharePart_132 rfl ?_
      refine jr_lmul C dHa_sharePart_134 ?_
      refine jr_lload (q := 2) C dHa_sharePart_135 rfl ?_
      refine jr_lmul C dHa_sharePart_137 ?_
      refine jr_ladd C dHa_sharePart_138 ?_
      refine jr_lstore (lv' := [(15, .long ((((Int32.toInt64 (st11 (39 + (Int32.toNatClampNeg r2)) (Int32.toNatClampNeg l3))) * (Int32.toInt64 r12)) * (Int32.toInt64 (r6 + (1 : Int32)))) + (((Int32.toInt64 (st11 (39 + (Int32.toNatClampNeg r4)) (Int32.toNatClampNeg l3))) * (Int32.toInt64 r10)) * (Int32.toInt64 (r8 + (1 : Int32)))))), (13, .long (Int32.toInt64 r12)), (11, .long (Int32.toInt64 r10)), (9, .long (Int32.toInt64 (r8 + (1 : Int32)))), (7, .long (Int32.toInt64 (r6 + (1 : Int32)))), (6, .int r4), (5, .int r2), (0, .ref (ad 3)), (1, .int l1), (2, .int l2), (3, .int l3), (4, .int l4)]) C dHa_sharePart_139 (by decide) rfl ?_
      refine jr_lload (q := 0) C dHa_sharePart_141 rfl ?_
      refine jr_lload (q := 2) C dHa_sharePart_143 rfl ?_
      refine jr_lload (q := 1) C dHa_sharePart_145 rfl ?_
      refine jr_lmul C dHa_sharePart_147 ?_
      refine jr_lload (q := 4) C dHa_sharePart_148 rfl ?_
      refine jr_lload (q := 3) C dHa_sharePart_150 rfl ?_
      refine jr_ladd C dHa_sharePart_152 ?_
      refine jr_lmul C dHa_sharePart_153 ?_
      refine jr_iload (q := 11) C dHa_sharePart_154 rfl ?_
      refine jr_callSNl (As := [.long ((((Int32.toInt64 (st11 (39 + (Int32.toNatClampNeg r2)) (Int32.toNatClampNeg l3))) * (Int32.toInt64 r12)) * (Int32.toInt64 (r6 + (1 : Int32)))) + (((Int32.toInt64 (st11 (39 + (Int32.toNatClampNeg r4)) (Int32.toNatClampNeg l3))) * (Int32.toInt64 r10)) * (Int32.toInt64 (r8 + (1 : Int32))))), .long (((Int32.toInt64 r10) * (Int32.toInt64 r12)) * ((Int32.toInt64 (r6 + (1 : Int32))) + (Int32.toInt64 (r8 + (1 : Int32))))), .int l4]) (rest := []) C (c_KT_partOf h) ⟨va_cnB 3 C.2.2.2.2.1 (tg_N tm2_172) rfl rfl rfl (C.2.2.2.2.2.2.2 _ (List.mem_of_getElem? (i := 11) rfl)) (C.2.2.2.2.1 _ (List.mem_cons_of_mem _ tm1_1)) ⟨by decide, by decide, by decide⟩ ⟨Nat.le_of_ble_eq_true rfl, Nat.le_of_ble_eq_true rfl⟩, C.2.2.2.2.1 _ (List.mem_cons_of_mem _ tm2_171), trivial⟩ dHa_sharePart_156 rfl rfl (Nat.le_of_ble_eq_true rfl) ⟨Nat.le_of_ble_eq_true rfl, Nat.le_of_ble_eq_true rfl⟩ (fun r18 st17 h => ?_)
      exact jr_retl C hr hlocks dHa_sharePart_159 h rfl
    · have h := h.2 z
      refine jr_aload_n (q := 2) C dHa_sharePart_39 rfl rfl ?_
      refine jr_getf (k := 3) C dHa_sharePart_40 inw_Ha (rfl : kC[3]? = _) (by decide) (List.mem_cons_of_mem _ tm1_99) rfl kA_3 rfl ?_
      refine jr_iload (q := 1) C dHa_sharePart_43 rfl ?_
      obtain ⟨h19, h⟩ := h
      refine jr_alda (t0 := 1) C dHa_sharePart_45 kA_14 rfl h19 (kE_cat h19) ?_
      refine jr_iload_n (q := 5) C dHa_sharePart_46 rfl rfl ?_
      obtain ⟨h20, h⟩ := h
      refine jr_iald (t0 := 0) C dHa_sharePart_47 (kA_rowcat h19) rfl h20 ?_
      refine jr_i2l C dHa_sharePart_48 ?_
      refine jr_aload_n (q := 2) C dHa_sharePart_49 rfl rfl ?_
      refine jr_iload (q := 1) C dHa_sharePart_50 rfl ?_
      refine jr_callVi (As := [.int r2]) (rest := [.long (Int32.toInt64 (st3 (39 + (Int32.toNatClampNeg r2)) (Int32.toNatClampNeg l3)))]) C (c_Ha_allGrams h) (cwV 1 C.2.2.2.2.1 (tg_V tm3_63 tm3_65 tp_14 tm1_5 tm3_66) rfl rfl rfl ⟨rfl, by decide, by decide, by decide⟩ ⟨Nat.le_of_ble_eq_true rfl, Nat.le_of_ble_eq_true rfl⟩) dHa_sharePart_52 (rfl : kC[3]? = _) kA_3 rfl rfl (Nat.le_of_ble_eq_true rfl) ⟨Nat.le_of_ble_eq_true rfl, Nat.le_of_ble_eq_true rfl⟩ (fun r22 st21 h => ?_)
      refine jr_i2l C dHa_sharePart_55 ?_
      refine jr_iload (q := 6) C dHa_sharePart_56 rfl ?_
      refine jr_callSNl (As := [.long (Int32.toInt64 (st3 (39 + (Int32.toNatClampNeg r2)) (Int32.toNatClampNeg l3))), .long (Int32.toInt64 r22), .int l4]) (rest := []) C (c_KT_partOf h) ⟨va_cnB 3 C.2.2.2.2.1 (tg_N tm2_172) rfl rfl rfl (C.2.2.2.2.2.2.2 _ (List.mem_of_getElem? (i := 11) rfl)) (C.2.2.2.2.1 _ (List.mem_cons_of_mem _ tm1_1)) ⟨by decide, by decide, by decide⟩ ⟨Nat.le_of_ble_eq_true rfl, Nat.le_of_ble_eq_true rfl⟩, C.2.2.2.2.1 _ (List.mem_cons_of_mem _ tm2_171), trivial⟩ dHa_sharePart_58 rfl rfl (Nat.le_of_ble_eq_true rfl) ⟨Nat.le_of_ble_eq_true rfl, Nat.le_of_ble_eq_true rfl⟩ (fun r24 st23 h => ?_)
      exact jr_retl C hr hlocks dHa_sharePart_61 h rfl
  · have h := h.2 z
    refine jr_lconst (v := 0) C dHa_sharePart_15 (by decide) ?_
    refine jr_lconst (v := 0) C dHa_sharePart_16 (by decide) ?_
    refine jr_iload (q := 5) C dHa_sharePart_17 rfl ?_
    refine jr_callSNl (As := [.long (0 : Int64), .long (0 : Int64), .int l4]) (rest := []) C (c_KT_partOf h) ⟨va_cnB 3 C.2.2.2.2.1 (tg_N tm2_172) rfl rfl rfl (C.2.2.2.2.2.2.2 _ (List.mem_of_getElem? (i := 11) rfl)) (C.2.2.2.2.1 _ (List.mem_cons_of_mem _ tm1_1)) ⟨by decide, by decide, by decide⟩ ⟨Nat.le_of_ble_eq_true rfl, Nat.le_of_ble_eq_true rfl⟩, C.2.2.2.2.1 _ (List.mem_cons_of_mem _ tm2_171), trivial⟩ dHa_sharePart_19 rfl rfl (Nat.le_of_ble_eq_true rfl) ⟨Nat.le_of_ble_eq_true rfl, Nat.le_of_ble_eq_true rfl⟩ (fun r26 st25 h => ?_)
    exact jr_retl C hr hlocks dHa_sharePart_22 h rfl
end KT
