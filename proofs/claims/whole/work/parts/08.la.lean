section KT
variable {l : Launch} {D : va_G} {cI cII cL cJ : ClassId} {ad sa : Nat → Nat} {K F : Nat} {fr : va_W}
def wp_La_lastLength (K F : Nat) (k : Nat) (st : jS) (post : Int32 → jS → Prop) : Prop :=
  (((1 : Int32) ≤ (st (51 + 3 * k) 2) → vp_in ((st (51 + 3 * k) 2) - (1 : Int32)) 6 ∧ post (st (52 + 3 * k) (Int32.toNatClampNeg ((st (51 + 3 * k) 2) - (1 : Int32)))) st) ∧ (¬ (1 : Int32) ≤ (st (51 + 3 * k) 2) → post (0 : Int32) st))
set_option maxRecDepth 100000 in
set_option maxHeartbeats 4000000 in
theorem c_La_lastLength (k : Nat) (hk : k < K) {st : jS} {post : Int32 → jS → Prop} (h : wp_La_lastLength K F k st post) : jr_Mi l yLa_lastLength wLa_lastLength ({ frames := 0, cells := 0, slots := 0, locals := 0 }) [.ref (ad (51 + 3 * k))] D kC (kT cI cII cL cJ) (kW cI cII cL ad K F fr st) (kW cI cII cL ad K F fr) post := by
  refine jr_ofi (cc := bLa_lastLength) (nL := 1) (lv := [(0, .ref (ad (51 + 3 * k)))]) (by decide) rfl (Nat.le_of_ble_eq_true rfl) rfl (fun p e s m args below meth c A C hr hlocks => ?_)
  unfold wp_La_lastLength at h
  refine jr_aload_n (q := 0) C dLa_lastLength_0 rfl rfl ?_
  refine jr_getf (k := 2) C dLa_lastLength_1 inw_La (rfl : kC[4]? = _) (by decide) (List.mem_cons_of_mem _ tm1_123) rfl (kA_law hk) rfl ?_
  refine jr_iconst (v := 1) C dLa_lastLength_4 (by decide) ?_
  refine jr_icmp_ge (tgt := 12) C dLa_lastLength_5 (by decide) (fun z => ?_) (fun z => ?_)
  · have h := h.1 z
    refine jr_aload_n (q := 0) C dLa_lastLength_12 rfl rfl ?_
    refine jr_getf (k := 0) C dLa_lastLength_13 inw_La (rfl : kC[4]? = _) (by decide) (List.mem_cons_of_mem _ tm1_121) rfl (kA_law hk) rfl ?_
    refine jr_aload_n (q := 0) C dLa_lastLength_16 rfl rfl ?_
    refine jr_getf (k := 2) C dLa_lastLength_17 inw_La (rfl : kC[4]? = _) (by decide) (List.mem_cons_of_mem _ tm1_123) rfl (kA_law hk) rfl ?_
    refine jr_iconst (v := 1) C dLa_lastLength_20 (by decide) ?_
    refine jr_isub C dLa_lastLength_21 ?_
    obtain ⟨h1, h⟩ := h
    refine jr_iald (t0 := 0) C dLa_lastLength_22 (kA_len hk) rfl h1 ?_
    exact jr_reti C hr hlocks dLa_lastLength_23 h rfl
  · have h := h.2 z
    refine jr_iconst (v := 0) C dLa_lastLength_8 (by decide) ?_
    refine jr_goto (tgt := 23) C dLa_lastLength_9 (by decide) ?_
    exact jr_reti C hr hlocks dLa_lastLength_23 h rfl
def wp_La_add (K F : Nat) (k : Nat) (st : jS) (l1 : Int32) (l2 : Int32) (post : Int32 → jS → Prop) : Prop :=
  vp_in (st (51 + 3 * k) 2) 6 ∧ vp_in ((jq st (52 + 3 * k) (Int32.toNatClampNeg (st (51 + 3 * k) 2)) l1) (51 + 3 * k) 2) 6 ∧ post ((jq (jq (jq st (52 + 3 * k) (Int32.toNatClampNeg (st (51 + 3 * k) 2)) l1) (53 + 3 * k) (Int32.toNatClampNeg ((jq st (52 + 3 * k) (Int32.toNatClampNeg (st (51 + 3 * k) 2)) l1) (51 + 3 * k) 2)) l2) (51 + 3 * k) 2 (((jq (jq st (52 + 3 * k) (Int32.toNatClampNeg (st (51 + 3 * k) 2)) l1) (53 + 3 * k) (Int32.toNatClampNeg ((jq st (52 + 3 * k) (Int32.toNatClampNeg (st (51 + 3 * k) 2)) l1) (51 + 3 * k) 2)) l2) (51 + 3 * k) 2) + (1 : Int32))) (51 + 3 * k) 2) (jq (jq (jq st (52 + 3 * k) (Int32.toNatClampNeg (st (51 + 3 * k) 2)) l1) (53 + 3 * k) (Int32.toNatClampNeg ((jq st (52 + 3 * k) (Int32.toNatClampNeg (st (51 + 3 * k) 2)) l1) (51 + 3 * k) 2)) l2) (51 + 3 * k) 2 (((jq (jq st (52 + 3 * k) (Int32.toNatClampNeg (st (51 + 3 * k) 2)) l1) (53 + 3 * k) (Int32.toNatClampNeg ((jq st (52 + 3 * k) (Int32.toNatClampNeg (st (51 + 3 * k) 2)) l1) (51 + 3 * k) 2)) l2) (51 + 3 * k) 2) + (1 : Int32)))
set_option maxRecDepth 100000 in
set_option maxHeartbeats 4000000 in
theorem c_La_add (k : Nat) (hk : k < K) {st : jS} {l1 : Int32} {l2 : Int32} {post : Int32 → jS → Prop} (h : wp_La_add K F k st l1 l2 post) : jr_Mi l yLa_add wLa_add ({ frames := 0, cells := 0, slots := 0, locals := 0 }) [.ref (ad (51 + 3 * k)), .int l1, .int l2] D kC (kT cI cII cL cJ) (kW cI cII cL ad K F fr st) (kW cI cII cL ad K F fr) post := by
  refine jr_ofi (cc := bLa_add) (nL := 3) (lv := [(0, .ref (ad (51 + 3 * k))), (1, .int l1), (2, .int l2)]) (by decide) rfl (Nat.le_of_ble_eq_true rfl) rfl (fun p e s m args below meth c A C hr hlocks => ?_)
  unfold wp_La_add at h
  refine jr_aload_n (q := 0) C dLa_add_0 rfl rfl ?_
  refine jr_getf (k := 0) C dLa_add_1 inw_La (rfl : kC[4]? = _) (by decide) (List.mem_cons_of_mem _ tm1_121) rfl (kA_law hk) rfl ?_
  refine jr_aload_n (q := 0) C dLa_add_4 rfl rfl ?_
  refine jr_getf (k := 2) C dLa_add_5 inw_La (rfl : kC[4]? = _) (by decide) (List.mem_cons_of_mem _ tm1_123) rfl (kA_law hk) rfl ?_
  refine jr_iload_n (q := 1) C dLa_add_8 rfl rfl ?_
  obtain ⟨h1, h⟩ := h
  refine jr_iast (t0 := 0) C dLa_add_9 (kA_len hk) rfl h1 ?_
  refine jr_ws (ws' := kW cI cII cL ad K F fr (jq st (52 + 3 * k) (Int32.toNatClampNeg (st (51 + 3 * k) 2)) l1)) (kP_len hk) ?_
  refine jr_aload_n (q := 0) C dLa_add_10 rfl rfl ?_
  refine jr_getf (k := 1) C dLa_add_11 inw_La (rfl : kC[4]? = _) (by decide) (List.mem_cons_of_mem _ tm1_122) rfl (kA_law hk) rfl ?_
  refine jr_aload_n (q := 0) C dLa_add_14 rfl rfl ?_
  refine jr_getf (k := 2) C dLa_add_15 inw_La (rfl : kC[4]? = _) (by decide) (List.mem_cons_of_mem _ tm1_123) rfl (kA_law hk) rfl ?_
  refine jr_iload_n (q := 2) C dLa_add_18 rfl rfl ?_
  obtain ⟨h2, h⟩ := h
  refine jr_iast (t0 := 0) C dLa_add_19 (kA_str hk) rfl h2 ?_
  refine jr_ws (ws' := kW cI cII cL ad K F fr (jq (jq st (52 + 3 * k) (Int32.toNatClampNeg (st (51 + 3 * k) 2)) l1) (53 + 3 * k) (Int32.toNatClampNeg ((jq st (52 + 3 * k) (Int32.toNatClampNeg (st (51 + 3 * k) 2)) l1) (51 + 3 * k) 2)) l2)) (kP_str hk) ?_
  refine jr_aload_n (q := 0) C dLa_add_20 rfl rfl ?_
  refine jr_dup C dLa_add_21 rfl ?_
  refine jr_getf (k := 2) C dLa_add_22 inw_La (rfl : kC[4]? = _) (by decide) (List.mem_cons_of_mem _ tm1_123) rfl (kA_law hk) rfl ?_
  refine jr_iconst (v := 1) C dLa_add_25 (by decide) ?_
  refine jr_iadd C dLa_add_26 ?_
  refine jr_putf (k := 2) C dLa_add_27 inw_La ty_La ty_La_ok nm_La (rfl : kC[4]? = _) (by decide) (List.mem_cons_of_mem _ tm1_123) rfl rfl (ty := .int) rfl rfl rfl (kA_law hk) (Nat.le_of_ble_eq_true rfl) ?_
  refine jr_ws (ws' := kW cI cII cL ad K F fr (jq (jq (jq st (52 + 3 * k) (Int32.toNatClampNeg (st (51 + 3 * k) 2)) l1) (53 + 3 * k) (Int32.toNatClampNeg ((jq st (52 + 3 * k) (Int32.toNatClampNeg (st (51 + 3 * k) 2)) l1) (51 + 3 * k) 2)) l2) (51 + 3 * k) 2 (((jq (jq st (52 + 3 * k) (Int32.toNatClampNeg (st (51 + 3 * k) 2)) l1) (53 + 3 * k) (Int32.toNatClampNeg ((jq st (52 + 3 * k) (Int32.toNatClampNeg (st (51 + 3 * k) 2)) l1) (51 + 3 * k) 2)) l2) (51 + 3 * k) 2) + (1 : Int32)))) (kP_law hk) ?_
  refine jr_aload_n (q := 0) C dLa_add_30 rfl rfl ?_
  refine jr_getf (k := 2) C dLa_add_31 inw_La (rfl : kC[4]? = _) (by decide) (List.mem_cons_of_mem _ tm1_123) rfl (kA_law hk) rfl ?_
  exact jr_reti C hr hlocks dLa_add_34 h rfl
def wp_La_strengthBefore (K F : Nat) (k : Nat) (st : jS) (l1 : Int32) (l2 : Int32) (post : Int32 → jS → Prop) : Prop :=
  vp_in l1 6 ∧ vp_in (l1 - (1 : Int32)) 6 ∧ vp_in l1 6 ∧ vp_in (l1 - (1 : Int32)) 6 ∧ vp_in (l1 - (1 : Int32)) 6 ∧ (((1 : Int32) ≤ ((st (52 + 3 * k) (Int32.toNatClampNeg l1)) - (st (52 + 3 * k) (Int32.toNatClampNeg (l1 - (1 : Int32))))) → vp_in (l1 - (1 : Int32)) 6 ∧ wp_Ma_floorDiv K F st (((st (53 + 3 * k) (Int32.toNatClampNeg l1)) - (st (53 + 3 * k) (Int32.toNatClampNeg (l1 - (1 : Int32))))) * (l2 - (st (52 + 3 * k) (Int32.toNatClampNeg (l1 - (1 : Int32)))))) ((st (52 + 3 * k) (Int32.toNatClampNeg l1)) - (st (52 + 3 * k) (Int32.toNatClampNeg (l1 - (1 : Int32))))) (fun r8 st7 => post ((st (53 + 3 * k) (Int32.toNatClampNeg (l1 - (1 : Int32)))) + r8) st7)) ∧ (¬ (1 : Int32) ≤ ((st (52 + 3 * k) (Int32.toNatClampNeg l1)) - (st (52 + 3 * k) (Int32.toNatClampNeg (l1 - (1 : Int32))))) → vp_in l1 6 ∧ post (st (53 + 3 * k) (Int32.toNatClampNeg l1)) st))
set_option maxRecDepth 100000 in
set_option maxHeartbeats 4000000 in
theorem c_La_strengthBefore (k : Nat) (hk : k < K) {st : jS} {l1 : Int32} {l2 : Int32} {post : Int32 → jS → Prop} (h : wp_La_strengthBefore K F k st l1 l2 post) : jr_Mi l yLa_strengthBefore wLa_strengthBefore ({ frames := 1, cells := 0, slots := 0, locals := 22 }) [.ref (ad (51 + 3 * k)), .int l1, .int l2] D kC (kT cI cII cL cJ) (kW cI cII cL ad K F fr st) (kW cI cII cL ad K F fr) post := by
  refine jr_ofi (cc := bLa_strengthBefore) (nL := 6) (lv := [(0, .ref (ad (51 + 3 * k))), (1, .int l1), (2, .int l2)]) (by decide) rfl (Nat.le_of_ble_eq_true rfl) rfl (fun p e s m args below meth c A C hr hlocks => ?_)
  unfold wp_La_strengthBefore at h
  refine jr_aload_n (q := 0) C dLa_strengthBefore_0 rfl rfl ?_
  refine jr_getf (k := 1) C dLa_strengthBefore_1 inw_La (rfl : kC[4]? = _) (by decide) (List.mem_cons_of_mem _ tm1_122) rfl (kA_law hk) rfl ?_
  refine jr_iload_n (q := 1) C dLa_strengthBefore_4 rfl rfl ?_
  obtain ⟨h1, h⟩ := h
  refine jr_iald (t0 := 0) C dLa_strengthBefore_5 (kA_str hk) rfl h1 ?_
  refine jr_aload_n (q := 0) C dLa_strengthBefore_6 rfl rfl ?_
  refine jr_getf (k := 1) C dLa_strengthBefore_7 inw_La (rfl : kC[4]? = _) (by decide) (List.mem_cons_of_mem _ tm1_122) rfl (kA_law hk) rfl ?_
  refine jr_iload_n (q := 1) C dLa_strengthBefore_10 rfl rfl ?_
  refine jr_iconst (v := 1) C dLa_strengthBefore_11 (by decide) ?_
  refine jr_isub C dLa_strengthBefore_12 ?_
  obtain ⟨h2, h⟩ := h
  refine jr_iald (t0 := 0) C dLa_strengthBefore_13 (kA_str hk) rfl h2 ?_
  refine jr_isub C dLa_strengthBefore_14 ?_
  refine jr_istore_n (lv' := [(3, .int ((st (53 + 3 * k) (Int32.toNatClampNeg l1)) - (st (53 + 3 * k) (Int32.toNatClampNeg (l1 - (1 : Int32)))))), (0, .ref (ad (51 + 3 * k))), (1, .int l1), (2, .int l2)]) C dLa_strengthBefore_15 rfl (by decide) rfl ?_
  refine jr_aload_n (q := 1) C dLa_strengthBefore_16 rfl rfl ?_
  refine jr_getf (k := 0) C dLa_strengthBefore_17 inw_La (rfl : kC[4]? = _) (by decide) (List.mem_cons_of_mem _ tm1_121) rfl (kA_law hk) rfl ?_
  refine jr_iload_n (q := 2) C dLa_strengthBefore_20 rfl rfl ?_
  obtain ⟨h3, h⟩ := h
  refine jr_iald (t0 := 0) C dLa_strengthBefore_21 (kA_len hk) rfl h3 ?_
  refine jr_aload_n (q := 1) C dLa_strengthBefore_22 rfl rfl ?_
  refine jr_getf (k := 0) C dLa_strengthBefore_23 inw_La (rfl : kC[4]? = _) (by decide) (List.mem_cons_of_mem _ tm1_121) rfl (kA_law hk) rfl ?_
  refine jr_iload_n (q := 2) C dLa_strengthBefore_26 rfl rfl ?_
  refine jr_iconst (v := 1) C dLa_strengthBefore_27 (by decide) ?_
  refine jr_isub C dLa_strengthBefore_28 ?_
  obtain ⟨h4, h⟩ := h
  refine jr_iald (t0 := 0) C dLa_strengthBefore_29 (kA_len hk) rfl h4 ?_
  refine jr_isub C dLa_strengthBefore_30 ?_
  refine jr_istore (lv' := [(4, .int ((st (52 + 3 * k) (Int32.toNatClampNeg l1)) - (st (52 + 3 * k) (Int32.toNatClampNeg (l1 - (1 : Int32)))))), (3, .int ((st (53 + 3 * k) (Int32.toNatClampNeg l1)) - (st (53 + 3 * k) (Int32.toNatClampNeg (l1 - (1 : Int32)))))), (0, .ref (ad (51 + 3 * k))), (1, .int l1), (2, .int l2)]) C dLa_strengthBefore_31 (by decide) rfl ?_
  refine jr_iload_n (q := 4) C dLa_strengthBefore_33 rfl rfl ?_
  refine jr_aload_n (q := 2) C dLa_strengthBefore_34 rfl rfl ?_
  refine jr_getf (k := 0) C dLa_strengthBefore_35 inw_La (rfl : kC[4]? = _) (by decide) (List.mem_cons_of_mem _ tm1_121) rfl (kA_law hk) rfl ?_
  refine jr_iload_n (q := 3) C dLa_strengthBefore_38 rfl rfl ?_
  refine jr_iconst (v := 1) C dLa_strengthBefore_39 (by decide) ?_
  refine jr_isub C dLa_strengthBefore_40 ?_
  obtain ⟨h5, h⟩ := h
  refine jr_iald (t0 := 0) C dLa_strengthBefore_41 (kA_len hk) rfl h5 ?_
  refine jr_isub C dLa_strengthBefore_42 ?_
  refine jr_istore (lv' := [(5, .int (l2 - (st (52 + 3 * k) (Int32.toNatClampNeg (l1 - (1 : Int32)))))), (4, .int ((st (52 + 3 * k) (Int32.toNatClampNeg l1)) - (st (52 + 3 * k) (Int32.toNatClampNeg (l1 - (1 : Int32)))))), (3, .int ((st (53 + 3 * k) (Int32.toNatClampNeg l1)) - (st (53 + 3 * k) (Int32.toNatClampNeg (l1 - (1 : Int32)))))), (0, .ref (ad (51 + 3 * k))), (1, .int l1), (2, .int l2)]) C dLa_strengthBefore_43 (by decide) rfl ?_
  refine jr_iload (q := 1) C dLa_strengthBefore_45 rfl ?_
  refine jr_iconst (v := 1) C dLa_strengthBefore_47 (by decide) ?_
  refine jr_icmp_ge (tgt := 60) C dLa_strengthBefore_48 (by decide) (fun z => ?_) (fun z => ?_)
  · have h := h.1 z
    refine jr_aload_n (q := 3) C dLa_strengthBefore_60 rfl rfl ?_
    refine jr_getf (k := 1) C dLa_strengthBefore_61 inw_La (rfl : kC[4]? = _) (by decide) (List.mem_cons_of_mem _ tm1_122) rfl (kA_law hk) rfl ?_
    refine jr_iload_n (q := 4) C dLa_strengthBefore_64 rfl rfl ?_
    refine jr_iconst (v := 1) C dLa_strengthBefore_65 (by decide) ?_
    refine jr_isub C dLa_strengthBefore_66 ?_
    obtain ⟨h6, h⟩ := h
    refine jr_iald (t0 := 0) C dLa_strengthBefore_67 (kA_str hk) rfl h6 ?_
    refine jr_iload_n (q := 2) C dLa_strengthBefore_68 rfl rfl ?_
    refine jr_iload (q := 0) C dLa_strengthBefore_69 rfl ?_
    refine jr_imul C dLa_strengthBefore_71 ?_
    refine jr_iload (q := 1) C dLa_strengthBefore_72 rfl ?_
    refine jr_callSi (As := [.int (((st (53 + 3 * k) (Int32.toNatClampNeg l1)) - (st (53 + 3 * k) (Int32.toNatClampNeg (l1 - (1 : Int32))))) * (l2 - (st (52 + 3 * k) (Int32.toNatClampNeg (l1 - (1 : Int32)))))), .int ((st (52 + 3 * k) (Int32.toNatClampNeg l1)) - (st (52 + 3 * k) (Int32.toNatClampNeg (l1 - (1 : Int32)))))]) (rest := [.int (st (53 + 3 * k) (Int32.toNatClampNeg (l1 - (1 : Int32))))]) C (c_Ma_floorDiv h) (va_cwS 2 C.2.2.2.2.1 (tg_S tm3_105 tm3_106 tm1_2 tm3_107) rfl rfl rfl ⟨by decide, by decide, by decide⟩ ⟨Nat.le_of_ble_eq_true rfl, Nat.le_of_ble_eq_true rfl⟩) dLa_strengthBefore_74 rfl rfl (Nat.le_of_ble_eq_true rfl) ⟨Nat.le_of_ble_eq_true rfl, Nat.le_of_ble_eq_true rfl⟩ (fun r8 st7 h => ?_)
    refine jr_iadd C dLa_strengthBefore_77 ?_
    exact jr_reti C hr hlocks dLa_strengthBefore_78 h rfl
  · have h := h.2 z
    refine jr_aload_n (q := 3) C dLa_strengthBefore_51 rfl rfl ?_
    refine jr_getf (k := 1) C dLa_strengthBefore_52 inw_La (rfl : kC[4]? = _) (by decide) (List.mem_cons_of_mem _ tm1_122) rfl (kA_law hk) rfl ?_
    refine jr_iload_n (q := 4) C dLa_strengthBefore_55 rfl rfl ?_
    obtain ⟨h9, h⟩ := h
    refine jr_iald (t0 := 0) C dLa_strengthBefore_56 (kA_str hk) rfl h9 ?_
    refine jr_goto (tgt := 78) C dLa_strengthBefore_57 (by decide) ?_
    exact jr_reti C hr hlocks dLa_strengthBefore_78 h rfl
def wp_La_strengthAt_2 (K F : Nat) (k : Nat) (post : Int32 → jS → Prop) : Nat → jS → Int32 → Int32 → Prop
  | 0 => fun _ _ _ => False
  | n + 1 => fun st x1 x2 => (((st (51 + 3 * k) 2) ≤ x2 → post (-1 : Int32) st) ∧ (¬ (st (51 + 3 * k) 2) ≤ x2 → vp_in x2 6 ∧ ((¬ x1 = (st (52 + 3 * k) (Int32.toNatClampNeg x2)) → vp_in x2 6 ∧ (((st (52 + 3 * k) (Int32.toNatClampNeg x2)) ≤ x1 → wp_La_strengthAt_2 K F k post n st x1 (x2 + (1 : Int32))) ∧ (¬ (st (52 + 3 * k) (Int32.toNatClampNeg x2)) ≤ x1 → (((1 : Int32) ≤ x2 → wp_La_strengthBefore K F k st x2 x1 (fun r4 st3 => post r4 st3)) ∧ (¬ (1 : Int32) ≤ x2 → post (-1 : Int32) st))))) ∧ (x1 = (st (52 + 3 * k) (Int32.toNatClampNeg x2)) → vp_in x2 6 ∧ post (st (53 + 3 * k) (Int32.toNatClampNeg x2)) st))))
def wp_La_strengthAt (K F : Nat) (k : Nat) (st : jS) (l1 : Int32) (post : Int32 → jS → Prop) : Prop :=
  (∃ n8, wp_La_strengthAt_2 K F k post n8 st l1 (0 : Int32))
set_option maxRecDepth 100000 in
set_option maxHeartbeats 4000000 in
theorem c_La_strengthAt (k : Nat) (hk : k < K) {st : jS} {l1 : Int32} {post : Int32 → jS → Prop} (h : wp_La_strengthAt K F k st l1 post) : jr_Mi l yLa_strengthAt wLa_strengthAt ({ frames := 2, cells := 0, slots := 0, locals := 47 }) [.ref (ad (51 + 3 * k)), .int l1] D kC (kT cI cII cL cJ) (kW cI cII cL ad K F fr st) (kW cI cII cL ad K F fr) post := by
  refine jr_ofi (cc := bLa_strengthAt) (nL := 3) (lv := [(0, .ref (ad (51 + 3 * k))), (1, .int l1)]) (by decide) rfl (Nat.le_of_ble_eq_true rfl) rfl (fun p e s m args below meth c A C hr hlocks => ?_)
  unfold wp_La_strengthAt at h
  refine jr_iconst (v := 0) C dLa_strengthAt_0 (by decide) ?_
  refine jr_istore_n (lv' := [(2, .int (0 : Int32)), (0, .ref (ad (51 + 3 * k))), (1, .int l1)]) C dLa_strengthAt_1 rfl (by decide) rfl ?_
  have lp6 : ∀ (n : Nat) (st : jS) (x1 : Int32) (x2 : Int32), wp_La_strengthAt_2 K F k post n st x1 x2 → jr_J p l e (headSpec wLa_strengthAt ({ frames := 2, cells := 0, slots := 0, locals := 47 })).room s m args below meth c A D kC 3 0 0 (MQ below (va_Qi post (jr_B D kC (kT cI cII cL cJ) (kW cI cII cL ad K F fr) A) A) args s 0 0 A) (kW cI cII cL ad K F fr st) 2 [(0, .ref (ad (51 + 3 * k))), (1, .int x1), (2, .int x2)] [] := by
    intro n
    induction n with
    | zero => intro st x1 x2 h; exact h.elim
    | succ n ih =>
      intro st x1 x2 h
      unfold wp_La_strengthAt_2 at h
      refine jr_iload_n (q := 2) C dLa_strengthAt_2 rfl rfl ?_
      refine jr_aload_n (q := 0) C dLa_strengthAt_3 rfl rfl ?_
      refine jr_getf (k := 2) C dLa_strengthAt_4 inw_La (rfl : kC[4]? = _) (by decide) (List.mem_cons_of_mem _ tm1_123) rfl (kA_law hk) rfl ?_
      refine jr_icmp_ge (tgt := 59) C dLa_strengthAt_7 (by decide) (fun z => ?_) (fun z => ?_)
      · have h := h.1 z
        refine jr_iconst (v := -1) C dLa_strengthAt_59 (by decide) ?_
        exact jr_reti C hr hlocks dLa_strengthAt_60 h rfl
      · have h := h.2 z
        refine jr_iload_n (q := 1) C dLa_strengthAt_10 rfl rfl ?_
        refine jr_aload_n (q := 0) C dLa_strengthAt_11 rfl rfl ?_
        refine jr_getf (k := 0) C dLa_strengthAt_12 inw_La (rfl : kC[4]? = _) (by decide) (List.mem_cons_of_mem _ tm1_121) rfl (kA_law hk) rfl ?_
        refine jr_iload_n (q := 2) C dLa_strengthAt_15 rfl rfl ?_
        obtain ⟨h1, h⟩ := h
        refine jr_iald (t0 := 0) C dLa_strengthAt_16 (kA_len hk) rfl h1 ?_
        refine jr_icmp_ne (tgt := 27) C dLa_strengthAt_17 (by decide) (fun z => ?_) (fun z => ?_)
        · have h := h.1 z
          refine jr_iload_n (q := 1) C dLa_strengthAt_27 rfl rfl ?_
          refine jr_aload_n (q := 0) C dLa_strengthAt_28 rfl rfl ?_
          refine jr_getf (k := 0) C dLa_strengthAt_29 inw_La (rfl : kC[4]? = _) (by decide) (List.mem_cons_of_mem _ tm1_121) rfl (kA_law hk) rfl ?_
          refine jr_iload_n (q := 2) C dLa_strengthAt_32 rfl rfl ?_
          obtain ⟨h2, h⟩ := h
          refine jr_iald (t0 := 0) C dLa_strengthAt_33 (kA_len hk) rfl h2 ?_
          refine jr_icmp_ge (tgt := 53) C dLa_strengthAt_34 (by decide) (fun z => ?_) (fun z => ?_)
          · have h := h.1 z
            refine jr_iinc (q := 2) (v := (x2 + (1 : Int32))) (lv' := [(2, .int (x2 + (1 : Int32))), (0, .ref (ad (51 + 3 * k))), (1, .int x1)]) C dLa_strengthAt_53 rfl rfl (by decide) rfl ?_
            refine jr_goto (tgt := 2) C dLa_strengthAt_56 (by decide) ?_
            refine jr_lv (lv' := [(0, .ref (ad (51 + 3 * k))), (1, .int x1), (2, .int (x2 + (1 : Int32)))]) [1, 2, 0] rfl ?_
            exact ih st x1 (x2 + (1 : Int32)) h
          · have h := h.2 z
            refine jr_iload_n (q := 2) C dLa_strengthAt_37 rfl rfl ?_
            refine jr_iconst (v := 1) C dLa_strengthAt_38 (by decide) ?_
            refine jr_icmp_ge (tgt := 46) C dLa_strengthAt_39 (by decide) (fun z => ?_) (fun z => ?_)
            · have h := h.1 z
              refine jr_aload_n (q := 0) C dLa_strengthAt_46 rfl rfl ?_
              refine jr_iload_n (q := 2) C dLa_strengthAt_47 rfl rfl ?_
              refine jr_iload_n (q := 1) C dLa_strengthAt_48 rfl rfl ?_
              refine jr_callVi (As := [.int x2, .int x1]) (rest := []) C (c_La_strengthBefore k hk h) (cwV 2 C.2.2.2.2.1 (tg_V tm3_101 tm3_103 tp_16 tm1_6 tm3_104) rfl rfl rfl ⟨rfl, by decide, by decide, by decide⟩ ⟨Nat.le_of_ble_eq_true rfl, Nat.le_of_ble_eq_true rfl⟩) dLa_strengthAt_49 (rfl : kC[4]? = _) (kA_law hk) rfl rfl (Nat.le_of_ble_eq_true rfl) ⟨Nat.le_of_ble_eq_true rfl, Nat.le_of_ble_eq_true rfl⟩ (fun r4 st3 h => ?_)
              exact jr_reti C hr hlocks dLa_strengthAt_52 h rfl
            · have h := h.2 z
              refine jr_iconst (v := -1) C dLa_strengthAt_42 (by decide) ?_
              refine jr_goto (tgt := 52) C dLa_strengthAt_43 (by decide) ?_
              exact jr_reti C hr hlocks dLa_strengthAt_52 h rfl
        · have h := h.2 z
          refine jr_aload_n (q := 0) C dLa_strengthAt_20 rfl rfl ?_
          refine jr_getf (k := 1) C dLa_strengthAt_21 inw_La (rfl : kC[4]? = _) (by decide) (List.mem_cons_of_mem _ tm1_122) rfl (kA_law hk) rfl ?_
          refine jr_iload_n (q := 2) C dLa_strengthAt_24 rfl rfl ?_
          obtain ⟨h5, h⟩ := h
          refine jr_iald (t0 := 0) C dLa_strengthAt_25 (kA_str hk) rfl h5 ?_
          exact jr_reti C hr hlocks dLa_strengthAt_26 h rfl
  obtain ⟨n7, h⟩ := h
  refine jr_lv (lv' := [(0, .ref (ad (51 + 3 * k))), (1, .int l1), (2, .int (0 : Int32))]) [1, 2, 0] rfl ?_
  exact lp6 n7 st l1 (0 : Int32) h
def wp_La_leastLengthBefore (K F : Nat) (k : Nat) (st : jS) (l1 : Int32) (l2 : Int32) (post : Int32 → jS → Prop) : Prop :=
  vp_in l1 6 ∧ vp_in (l1 - (1 : Int32)) 6 ∧ vp_in l1 6 ∧ vp_in (l1 - (1 : Int32)) 6 ∧ vp_in (l1 - (1 : Int32)) 6 ∧ (((1 : Int32) ≤ ((st (53 + 3 * k) (Int32.toNatClampNeg l1)) - (st (53 + 3 * k) (Int32.toNatClampNeg (l1 - (1 : Int32))))) → vp_in (l1 - (1 : Int32)) 6 ∧ (¬ ((st (53 + 3 * k) (Int32.toNatClampNeg l1)) - (st (53 + 3 * k) (Int32.toNatClampNeg (l1 - (1 : Int32))))) = 0) ∧ post ((st (52 + 3 * k) (Int32.toNatClampNeg (l1 - (1 : Int32)))) + (((((l2 - (st (53 + 3 * k) (Int32.toNatClampNeg (l1 - (1 : Int32))))) * ((st (52 + 3 * k) (Int32.toNatClampNeg l1)) - (st (52 + 3 * k) (Int32.toNatClampNeg (l1 - (1 : Int32)))))) + ((st (53 + 3 * k) (Int32.toNatClampNeg l1)) - (st (53 + 3 * k) (Int32.toNatClampNeg (l1 - (1 : Int32)))))) - (1 : Int32)) / ((st (53 + 3 * k) (Int32.toNatClampNeg l1)) - (st (53 + 3 * k) (Int32.toNatClampNeg (l1 - (1 : Int32))))))) st) ∧ (¬ (1 : Int32) ≤ ((st (53 + 3 * k) (Int32.toNatClampNeg l1)) - (st (53 + 3 * k) (Int32.toNatClampNeg (l1 - (1 : Int32))))) → vp_in l1 6 ∧ post (st (52 + 3 * k) (Int32.toNatClampNeg l1)) st))
set_option maxRecDepth 100000 in
set_option maxHeartbeats 4000000 in
theorem c_La_leastLengthBefore (k : Nat) (hk : k < K) {st : jS} {l1 : Int32} {l2 : Int32} {post : Int32 → jS → Prop} (h : wp_La_leastLengthBefore K F k st l1 l2 post) : jr_Mi l yLa_leastLengthBefore wLa_leastLengthBefore ({ frames := 0, cells := 0, slots := 0, locals := 0 }) [.ref (ad (51 + 3 * k)), .int l1, .int l2] D kC (kT cI cII cL cJ) (kW cI cII cL ad K F fr st) (kW cI cII cL ad K F fr) post := by
  refine jr_ofi (cc := bLa_leastLengthBefore) (nL := 6) (lv := [(0, .ref (ad (51 + 3 * k))), (1, .int l1), (2, .int l2)]) (by decide) rfl (Nat.le_of_ble_eq_true rfl) rfl (fun p e s m args below meth c A C hr hlocks => ?_)
  unfold wp_La_leastLengthBefore at h
  refine jr_aload_n (q := 0) C dLa_leastLengthBefore_0 rfl rfl ?_
  refine jr_getf (k := 1) C dLa_leastLengthBefore_1 inw_La (rfl : kC[4]? = _) (by decide) (List.mem_cons_of_mem _ tm1_122) rfl (kA_law hk) rfl ?_
  refine jr_iload_n (q := 1) C dLa_leastLengthBefore_4 rfl rfl ?_
  obtain ⟨h1, h⟩ := h
  refine jr_iald (t0 := 0) C dLa_leastLengthBefore_5 (kA_str hk) rfl h1 ?_
  refine jr_aload_n (q := 0) C dLa_leastLengthBefore_6 rfl rfl ?_
  refine jr_getf (k := 1) C dLa_leastLengthBefore_7 inw_La (rfl : kC[4]? = _) (by decide) (List.mem_cons_of_mem _ tm1_122) rfl (kA_law hk) rfl ?_
  refine jr_iload_n (q := 1) C dLa_leastLengthBefore_10 rfl rfl ?_
  refine jr_iconst (v := 1) C dLa_leastLengthBefore_11 (by decide) ?_
  refine jr_isub C dLa_leastLengthBefore_12 ?_
  obtain ⟨h2, h⟩ := h
  refine jr_iald (t0 := 0) C dLa_leastLengthBefore_13 (kA_str hk) rfl h2 ?_
  refine jr_isub C dLa_leastLengthBefore_14 ?_
  refine jr_istore_n (lv' := [(3, .int ((st (53 + 3 * k) (Int32.toNatClampNeg l1)) - (st (53 + 3 * k) (Int32.toNatClampNeg (l1 - (1 : Int32)))))), (0, .ref (ad (51 + 3 * k))), (1, .int l1), (2, .int l2)]) C dLa_leastLengthBefore_15 rfl (by decide) rfl ?_
  refine jr_aload_n (q := 1) C dLa_leastLengthBefore_16 rfl rfl ?_
  refine jr_getf (k := 0) C dLa_leastLengthBefore_17 inw_La (rfl : kC[4]? = _) (by decide) (List.mem_cons_of_mem _ tm1_121) rfl (kA_law hk) rfl ?_
  refine jr_iload_n (q := 2) C dLa_leastLengthBefore_20 rfl rfl ?_
  obtain ⟨h3, h⟩ := h
  refine jr_iald (t0 := 0) C dLa_leastLengthBefore_21 (kA_len hk) rfl h3 ?_
  refine jr_aload_n (q := 1) C dLa_leastLengthBefore_22 rfl rfl ?_
  refine jr_getf (k := 0) C dLa_leastLengthBefore_23 inw_La (rfl : kC[4]? = _) (by decide) (List.mem_cons_of_mem _ tm1_121) rfl (kA_law hk) rfl ?_
  refine jr_iload_n (q := 2) C dLa_leastLengthBefore_26 rfl rfl ?_
  refine jr_iconst (v := 1) C dLa_leastLengthBefore_27 (by decide) ?_
  refine jr_isub C dLa_leastLengthBefore_28 ?_
  obtain ⟨h4, h⟩ := h
  refine jr_iald (t0 := 0) C dLa_leastLengthBefore_29 (kA_len hk) rfl h4 ?_
  refine jr_isub C dLa_leastLengthBefore_30 ?_
  refine jr_istore (lv' := [(4, .int ((st (52 + 3 * k) (Int32.toNatClampNeg l1)) - (st (52 + 3 * k) (Int32.toNatClampNeg (l1 - (1 : Int32)))))), (3, .int ((st (53 + 3 * k) (Int32.toNatClampNeg l1)) - (st (53 + 3 * k) (Int32.toNatClampNeg (l1 - (1 : Int32)))))), (0, .ref (ad (51 + 3 * k))), (1, .int l1), (2, .int l2)]) C dLa_leastLengthBefore_31 (by decide) rfl ?_
  refine jr_iload_n (q := 4) C dLa_leastLengthBefore_33 rfl rfl ?_
  refine jr_aload_n (q := 2) C dLa_leastLengthBefore_34 rfl rfl ?_
  refine jr_getf (k := 1) C dLa_leastLengthBefore_35 inw_La (rfl : kC[4]? = _) (by decide) (List.mem_cons_of_mem _ tm1_122) rfl (kA_law hk) rfl ?_
  refine jr_iload_n (q := 3) C dLa_leastLengthBefore_38 rfl rfl ?_
  refine jr_iconst (v := 1) C dLa_leastLengthBefore_39 (by decide) ?_
  refine jr_isub C dLa_leastLengthBefore_40 ?_
  obtain ⟨h5, h⟩ := h
  refine jr_iald (t0 := 0) C dLa_leastLengthBefore_41 (kA_str hk) rfl h5 ?_
  refine jr_isub C dLa_leastLengthBefore_42 ?_
  refine jr_iload (q := 0) C dLa_leastLengthBefore_43 rfl ?_
  refine jr_imul C dLa_leastLengthBefore_45 ?_
  refine jr_istore (lv' := [(5, .int ((l2 - (st (53 + 3 * k) (Int32.toNatClampNeg (l1 - (1 : Int32))))) * ((st (52 + 3 * k) (Int32.toNatClampNeg l1)) - (st (52 + 3 * k) (Int32.toNatClampNeg (l1 - (1 : Int32))))))), (4, .int ((st (52 + 3 * k) (Int32.toNatClampNeg l1)) - (st (52 + 3 * k) (Int32.toNatClampNeg (l1 - (1 : Int32)))))), (3, .int ((st (53 + 3 * k) (Int32.toNatClampNeg l1)) - (st (53 + 3 * k) (Int32.toNatClampNeg (l1 - (1 : Int32)))))), (0, .ref (ad (51 + 3 * k))), (1, .int l1), (2, .int l2)]) C dLa_leastLengthBefore_46 (by decide) rfl ?_
  refine jr_iload_n (q := 2) C dLa_leastLengthBefore_48 rfl rfl ?_
  refine jr_iconst (v := 1) C dLa_leastLengthBefore_49 (by decide) ?_
  refine jr_icmp_ge (tgt := 62) C dLa_leastLengthBefore_50 (by decide) (fun z => ?_) (fun z => ?_)
  · have h := h.1 z
    refine jr_aload_n (q := 3) C dLa_leastLengthBefore_62 rfl rfl ?_
    refine jr_getf (k := 0) C dLa_leastLengthBefore_63 inw_La (rfl : kC[4]? = _) (by decide) (List.mem_cons_of_mem _ tm1_121) rfl (kA_law hk) rfl ?_
    refine jr_iload_n (q := 4) C dLa_leastLengthBefore_66 rfl rfl ?_
    refine jr_iconst (v := 1) C dLa_leastLengthBefore_67 (by decide) ?_
    refine jr_isub C dLa_leastLengthBefore_68 ?_
    obtain ⟨h6, h⟩ := h
    refine jr_iald (t0 := 0) C dLa_leastLengthBefore_69 (kA_len hk) rfl h6 ?_
    refine jr_iload (q := 0) C dLa_leastLengthBefore_70 rfl ?_
    refine jr_iload_n (q := 2) C dLa_leastLengthBefore_72 rfl rfl ?_
    refine jr_iadd C dLa_leastLengthBefore_73 ?_
    refine jr_iconst (v := 1) C dLa_leastLengthBefore_74 (by decide) ?_
    refine jr_isub C dLa_leastLengthBefore_75 ?_
    refine jr_iload_n (q := 2) C dLa_leastLengthBefore_76 rfl rfl ?_
    obtain ⟨h7, h⟩ := h
    refine jr_idiv C dLa_leastLengthBefore_77 h7 ?_
    refine jr_iadd C dLa_leastLengthBefore_78 ?_
    exact jr_reti C hr hlocks dLa_leastLengthBefore_79 h rfl
  · have h := h.2 z
    refine jr_aload_n (q := 3) C dLa_leastLengthBefore_53 rfl rfl ?_
    refine jr_getf (k := 0) C dLa_leastLengthBefore_54 inw_La (rfl : kC[4]? = _) (by decide) (List.mem_cons_of_mem _ tm1_121) rfl (kA_law hk) rfl ?_
    refine jr_iload_n (q := 4) C dLa_leastLengthBefore_57 rfl rfl ?_
    obtain ⟨h8, h⟩ := h
    refine jr_iald (t0 := 0) C dLa_leastLengthBefore_58 (kA_len hk) rfl h8 ?_
    refine jr_goto (tgt := 79) C dLa_leastLengthBefore_59 (by decide) ?_
    exact jr_reti C hr hlocks dLa_leastLengthBefore_79 h rfl
def wp_La_leastLength_2 (K F : Nat) (k : Nat) (post : Int32 → jS → Prop) : Nat → jS → Int32 → Int32 → Prop
  | 0 => fun _ _ _ => False
  | n + 1 => fun st x1 x2 => (((st (51 + 3 * k) 2) ≤ x2 → post (-1 : Int32) st) ∧ (¬ (st (51 + 3 * k) 2) ≤ x2 → vp_in x2 6 ∧ (((st (53 + 3 * k) (Int32.toNatClampNeg x2)) < x1 → wp_La_leastLength_2 K F k post n st x1 (x2 + (1 : Int32))) ∧ (¬ (st (53 + 3 * k) (Int32.toNatClampNeg x2)) < x1 → (((1 : Int32) ≤ x2 → wp_La_leastLengthBefore K F k st x2 x1 (fun r3 st2 => post r3 st2)) ∧ (¬ (1 : Int32) ≤ x2 → vp_in x2 6 ∧ post (st (52 + 3 * k) (Int32.toNatClampNeg x2)) st))))))
def wp_La_leastLength (K F : Nat) (k : Nat) (st : jS) (l1 : Int32) (post : Int32 → jS → Prop) : Prop :=
  (∃ n7, wp_La_leastLength_2 K F k post n7 st l1 (0 : Int32))
set_option maxRecDepth 100000 in
set_option maxHeartbeats 4000000 in
theorem c_La_leastLength (k : Nat) (hk : k < K) {st : jS} {l1 : Int32} {post : Int32 → jS → Prop} (h : wp_La_leastLength K F k st l1 post) : jr_Mi l yLa_leastLength wLa_leastLength ({ frames := 1, cells := 0, slots := 0, locals := 25 }) [.ref (ad (51 + 3 * k)), .int l1] D kC (kT cI cII cL cJ) (kW cI cII cL ad K F fr st) (kW cI cII cL ad K F fr) post := by
  refine jr_ofi (cc := bLa_leastLength) (nL := 3) (lv := [(0, .ref (ad (51 + 3 * k))), (1, .int l1)]) (by decide) rfl (Nat.le_of_ble_eq_true rfl) rfl (fun p e s m args below meth c A C hr hlocks => ?_)
  unfold wp_La_leastLength at h
  refine jr_iconst (v := 0) C dLa_leastLength_0 (by decide) ?_
  refine jr_istore_n (lv' := [(2, .int (0 : Int32)), (0, .ref (ad (51 + 3 * k))), (1, .int l1)]) C dLa_leastLength_1 rfl (by decide) rfl ?_
  have lp5 : ∀ (n : Nat) (st : jS) (x1 : Int32) (x2 : Int32), wp_La_leastLength_2 K F k post n st x1 x2 → jr_J p l e (headSpec wLa_leastLength ({ frames := 1, cells := 0, slots := 0, locals := 25 })).room s m args below meth c A D kC 3 0 0 (MQ below (va_Qi post (jr_B D kC (kT cI cII cL cJ) (kW cI cII cL ad K F fr) A) A) args s 0 0 A) (kW cI cII cL ad K F fr st) 2 [(0, .ref (ad (51 + 3 * k))), (1, .int x1), (2, .int x2)] [] := by
    intro n
    induction n with
    | zero => intro st x1 x2 h; exact h.elim
    | succ n ih =>
      intro st x1 x2 h
      unfold wp_La_leastLength_2 at h
      refine jr_iload_n (q := 2) C dLa_leastLength_2 rfl rfl ?_
      refine jr_aload_n (q := 0) C dLa_leastLength_3 rfl rfl ?_
      refine jr_getf (k := 2) C dLa_leastLength_4 inw_La (rfl : kC[4]? = _) (by decide) (List.mem_cons_of_mem _ tm1_123) rfl (kA_law hk) rfl ?_
      refine jr_icmp_ge (tgt := 47) C dLa_leastLength_7 (by decide) (fun z => ?_) (fun z => ?_)
      · have h := h.1 z
        refine jr_iconst (v := -1) C dLa_leastLength_47 (by decide) ?_
        exact jr_reti C hr hlocks dLa_leastLength_48 h rfl
      · have h := h.2 z
        refine jr_aload_n (q := 0) C dLa_leastLength_10 rfl rfl ?_
        refine jr_getf (k := 1) C dLa_leastLength_11 inw_La (rfl : kC[4]? = _) (by decide) (List.mem_cons_of_mem _ tm1_122) rfl (kA_law hk) rfl ?_
        refine jr_iload_n (q := 2) C dLa_leastLength_14 rfl rfl ?_
        obtain ⟨h1, h⟩ := h
        refine jr_iald (t0 := 0) C dLa_leastLength_15 (kA_str hk) rfl h1 ?_
        refine jr_iload_n (q := 1) C dLa_leastLength_16 rfl rfl ?_
        refine jr_icmp_lt (tgt := 41) C dLa_leastLength_17 (by decide) (fun z => ?_) (fun z => ?_)
        · have h := h.1 z
          refine jr_iinc (q := 2) (v := (x2 + (1 : Int32))) (lv' := [(2, .int (x2 + (1 : Int32))), (0, .ref (ad (51 + 3 * k))), (1, .int x1)]) C dLa_leastLength_41 rfl rfl (by decide) rfl ?_
          refine jr_goto (tgt := 2) C dLa_leastLength_44 (by decide) ?_
          refine jr_lv (lv' := [(0, .ref (ad (51 + 3 * k))), (1, .int x1), (2, .int (x2 + (1 : Int32)))]) [1, 2, 0] rfl ?_
          exact ih st x1 (x2 + (1 : Int32)) h
        · have h := h.2 z
          refine jr_iload_n (q := 2) C dLa_leastLength_20 rfl rfl ?_
          refine jr_iconst (v := 1) C dLa_leastLength_21 (by decide) ?_
          refine jr_icmp_ge (tgt := 34) C dLa_leastLength_22 (by decide) (fun z => ?_) (fun z => ?_)
          · have h := h.1 z
            refine jr_aload_n (q := 0) C dLa_leastLength_34 rfl rfl ?_
            refine jr_iload_n (q := 2) C dLa_leastLength_35 rfl rfl ?_
            refine jr_iload_n (q := 1) C dLa_leastLength_36 rfl rfl ?_
            refine jr_callVi (As := [.int x2, .int x1]) (rest := []) C (c_La_leastLengthBefore k hk h) (cwV 2 C.2.2.2.2.1 (tg_V tm3_119 tm3_121 tp_17 tm1_6 tm3_122) rfl rfl rfl ⟨rfl, by decide, by decide, by decide⟩ ⟨Nat.le_of_ble_eq_true rfl, Nat.le_of_ble_eq_true rfl⟩) dLa_leastLength_37 (rfl : kC[4]? = _) (kA_law hk) rfl rfl (Nat.le_of_ble_eq_true rfl) ⟨Nat.le_of_ble_eq_true rfl, Nat.le_of_ble_eq_true rfl⟩ (fun r3 st2 h => ?_)
            exact jr_reti C hr hlocks dLa_leastLength_40 h rfl
          · have h := h.2 z
            refine jr_aload_n (q := 0) C dLa_leastLength_25 rfl rfl ?_
            refine jr_getf (k := 0) C dLa_leastLength_26 inw_La (rfl : kC[4]? = _) (by decide) (List.mem_cons_of_mem _ tm1_121) rfl (kA_law hk) rfl ?_
            refine jr_iload_n (q := 2) C dLa_leastLength_29 rfl rfl ?_
            obtain ⟨h4, h⟩ := h
            refine jr_iald (t0 := 0) C dLa_leastLength_30 (kA_len hk) rfl h4 ?_
            refine jr_goto (tgt := 40) C dLa_leastLength_31 (by decide) ?_
            exact jr_reti C hr hlocks dLa_leastLength_40 h rfl
  obtain ⟨n6, h⟩ := h
  refine jr_lv (lv' := [(0, .ref (ad (51 + 3 * k))), (1, .int l1), (2, .int (0 : Int32))]) [1, 2, 0] rfl ?_
  exact lp5 n6 st l1 (0 : Int32) h
end KT
