section MO
variable {l : Launch} {D : va_G} {cI cII cL cJ : ClassId} {ad : Nat → Nat} {fr : va_W}
def wp_Mo_thrown (st : jS) (post : Int32 → jS → Prop) : Prop :=
  post (st 0 0) st
set_option maxRecDepth 100000 in
set_option maxHeartbeats 4000000 in
theorem c_Mo_thrown {st : jS} {post : Int32 → jS → Prop} (h : wp_Mo_thrown st post) : jr_Mi l yMo_thrown wMo_thrown ({ frames := 0, cells := 0, slots := 0, locals := 0 }) [.ref (ad 0)] D kC (kT cI cII cL cJ) (mW cI ad fr st) (mW cI ad fr) post := by
  refine jr_ofi (cc := bMo_thrown) (nL := 1) (lv := [(0, .ref (ad 0))]) (by decide) rfl (Nat.le_of_ble_eq_true rfl) rfl (fun p e s m args below meth c A C hr hlocks => ?_)
  unfold wp_Mo_thrown at h
  refine jr_aload_n (q := 0) C dMo_thrown_0 rfl rfl ?_
  refine jr_getf (k := 0) C dMo_thrown_1 inw_Mo (rfl : kC[5]? = _) (by decide) (List.mem_cons_of_mem _ tm3_129) rfl mA_0 rfl ?_
  exact jr_reti C hr hlocks dMo_thrown_4 h rfl
def wp_Mo_isIn (st : jS) (l0 : Int32) (l1 : Int32) (l2 : Int32) (post : Int32 → jS → Prop) : Prop :=
  ((l0 < l1 → post (0 : Int32) st) ∧ (¬ l0 < l1 → ((l2 < l0 → post (0 : Int32) st) ∧ (¬ l2 < l0 → post (1 : Int32) st))))
set_option maxRecDepth 100000 in
set_option maxHeartbeats 4000000 in
theorem c_Mo_isIn {st : jS} {l0 : Int32} {l1 : Int32} {l2 : Int32} {post : Int32 → jS → Prop} (h : wp_Mo_isIn st l0 l1 l2 post) : jr_Mi l yMo_isIn wMo_isIn ({ frames := 0, cells := 0, slots := 0, locals := 0 }) [.int l0, .int l1, .int l2] D kC (kT cI cII cL cJ) (mW cI ad fr st) (mW cI ad fr) post := by
  refine jr_ofz (cc := bMo_isIn) (nL := 3) (lv := [(0, .int l0), (1, .int l1), (2, .int l2)]) (by decide) rfl (Nat.le_of_ble_eq_true rfl) rfl (fun p e s m args below meth c A C hr hlocks => ?_)
  unfold wp_Mo_isIn at h
  refine jr_iload_n (q := 0) C dMo_isIn_0 rfl rfl ?_
  refine jr_iload_n (q := 1) C dMo_isIn_1 rfl rfl ?_
  refine jr_icmp_lt (tgt := 14) C dMo_isIn_2 (by decide) (fun z => ?_) (fun z => ?_)
  · have h := h.1 z
    refine jr_iconst (v := 0) C dMo_isIn_14 (by decide) ?_
    exact jr_retz C hr rfl hlocks dMo_isIn_15 h rfl
  · have h := h.2 z
    refine jr_iload_n (q := 0) C dMo_isIn_5 rfl rfl ?_
    refine jr_iload_n (q := 2) C dMo_isIn_6 rfl rfl ?_
    refine jr_icmp_gt (tgt := 14) C dMo_isIn_7 (by decide) (fun z => ?_) (fun z => ?_)
    · have h := h.1 z
      refine jr_iconst (v := 0) C dMo_isIn_14 (by decide) ?_
      exact jr_retz C hr rfl hlocks dMo_isIn_15 h rfl
    · have h := h.2 z
      refine jr_iconst (v := 1) C dMo_isIn_10 (by decide) ?_
      refine jr_goto (tgt := 15) C dMo_isIn_11 (by decide) ?_
      exact jr_retz C hr rfl hlocks dMo_isIn_15 h rfl
def wp_Mo_isKind (st : jS) (l1 : Int32) (post : Int32 → jS → Prop) : Prop :=
  wp_Mo_isIn st l1 (0 : Int32) ((st 0 1) - (1 : Int32)) (fun r2 st1 => (r2 = 0 ∨ r2 = 1) ∧ post r2 st1)
set_option maxRecDepth 100000 in
set_option maxHeartbeats 4000000 in
theorem c_Mo_isKind {st : jS} {l1 : Int32} {post : Int32 → jS → Prop} (h : wp_Mo_isKind st l1 post) : jr_Mi l yMo_isKind wMo_isKind ({ frames := 1, cells := 0, slots := 0, locals := 22 }) [.ref (ad 0), .int l1] D kC (kT cI cII cL cJ) (mW cI ad fr st) (mW cI ad fr) post := by
  refine jr_ofz (cc := bMo_isKind) (nL := 2) (lv := [(0, .ref (ad 0)), (1, .int l1)]) (by decide) rfl (Nat.le_of_ble_eq_true rfl) rfl (fun p e s m args below meth c A C hr hlocks => ?_)
  unfold wp_Mo_isKind at h
  refine jr_iload_n (q := 1) C dMo_isKind_0 rfl rfl ?_
  refine jr_iconst (v := 0) C dMo_isKind_1 (by decide) ?_
  refine jr_aload_n (q := 0) C dMo_isKind_2 rfl rfl ?_
  refine jr_getf (k := 1) C dMo_isKind_3 inw_Mo (rfl : kC[5]? = _) (by decide) (List.mem_cons_of_mem _ tm3_130) rfl mA_0 rfl ?_
  refine jr_iconst (v := 1) C dMo_isKind_6 (by decide) ?_
  refine jr_isub C dMo_isKind_7 ?_
  refine jr_callSi (As := [.int l1, .int (0 : Int32), .int ((st 0 1) - (1 : Int32))]) (rest := []) C (c_Mo_isIn h) (va_cwS 3 C.2.2.2.2.1 (tg_S tm3_193 tm3_194 tm1_7 tm3_195) rfl rfl rfl ⟨by decide, by decide, by decide⟩ ⟨Nat.le_of_ble_eq_true rfl, Nat.le_of_ble_eq_true rfl⟩) dMo_isKind_8 rfl rfl (Nat.le_of_ble_eq_true rfl) ⟨Nat.le_of_ble_eq_true rfl, Nat.le_of_ble_eq_true rfl⟩ (fun r2 st1 h => ?_)
  exact jr_retz C hr (jr_narz h.1) hlocks dMo_isKind_11 h.2 rfl
def wp_Mo_isExample (st : jS) (l1 : Int32) (post : Int32 → jS → Prop) : Prop :=
  wp_Mo_isIn st l1 (0 : Int32) ((st 0 4) - (1 : Int32)) (fun r2 st1 => (r2 = 0 ∨ r2 = 1) ∧ post r2 st1)
set_option maxRecDepth 100000 in
set_option maxHeartbeats 4000000 in
theorem c_Mo_isExample {st : jS} {l1 : Int32} {post : Int32 → jS → Prop} (h : wp_Mo_isExample st l1 post) : jr_Mi l yMo_isExample wMo_isExample ({ frames := 1, cells := 0, slots := 0, locals := 22 }) [.ref (ad 0), .int l1] D kC (kT cI cII cL cJ) (mW cI ad fr st) (mW cI ad fr) post := by
  refine jr_ofz (cc := bMo_isExample) (nL := 2) (lv := [(0, .ref (ad 0)), (1, .int l1)]) (by decide) rfl (Nat.le_of_ble_eq_true rfl) rfl (fun p e s m args below meth c A C hr hlocks => ?_)
  unfold wp_Mo_isExample at h
  refine jr_iload_n (q := 1) C dMo_isExample_0 rfl rfl ?_
  refine jr_iconst (v := 0) C dMo_isExample_1 (by decide) ?_
  refine jr_aload_n (q := 0) C dMo_isExample_2 rfl rfl ?_
  refine jr_getf (k := 4) C dMo_isExample_3 inw_Mo (rfl : kC[5]? = _) (by decide) (List.mem_cons_of_mem _ tm3_133) rfl mA_0 rfl ?_
  refine jr_iconst (v := 1) C dMo_isExample_6 (by decide) ?_
  refine jr_isub C dMo_isExample_7 ?_
  refine jr_callSi (As := [.int l1, .int (0 : Int32), .int ((st 0 4) - (1 : Int32))]) (rest := []) C (c_Mo_isIn h) (va_cwS 3 C.2.2.2.2.1 (tg_S tm3_193 tm3_194 tm1_7 tm3_195) rfl rfl rfl ⟨by decide, by decide, by decide⟩ ⟨Nat.le_of_ble_eq_true rfl, Nat.le_of_ble_eq_true rfl⟩) dMo_isExample_8 rfl rfl (Nat.le_of_ble_eq_true rfl) ⟨Nat.le_of_ble_eq_true rfl, Nat.le_of_ble_eq_true rfl⟩ (fun r2 st1 h => ?_)
  exact jr_retz C hr (jr_narz h.1) hlocks dMo_isExample_11 h.2 rfl
def wp_Mo_isFeature (st : jS) (l1 : Int32) (post : Int32 → jS → Prop) : Prop :=
  wp_Mo_isIn st l1 (0 : Int32) ((st 0 2) - (1 : Int32)) (fun r2 st1 => (r2 = 0 ∨ r2 = 1) ∧ post r2 st1)
set_option maxRecDepth 100000 in
set_option maxHeartbeats 4000000 in
theorem c_Mo_isFeature {st : jS} {l1 : Int32} {post : Int32 → jS → Prop} (h : wp_Mo_isFeature st l1 post) : jr_Mi l yMo_isFeature wMo_isFeature ({ frames := 1, cells := 0, slots := 0, locals := 22 }) [.ref (ad 0), .int l1] D kC (kT cI cII cL cJ) (mW cI ad fr st) (mW cI ad fr) post := by
  refine jr_ofz (cc := bMo_isFeature) (nL := 2) (lv := [(0, .ref (ad 0)), (1, .int l1)]) (by decide) rfl (Nat.le_of_ble_eq_true rfl) rfl (fun p e s m args below meth c A C hr hlocks => ?_)
  unfold wp_Mo_isFeature at h
  refine jr_iload_n (q := 1) C dMo_isFeature_0 rfl rfl ?_
  refine jr_iconst (v := 0) C dMo_isFeature_1 (by decide) ?_
  refine jr_aload_n (q := 0) C dMo_isFeature_2 rfl rfl ?_
  refine jr_getf (k := 2) C dMo_isFeature_3 inw_Mo (rfl : kC[5]? = _) (by decide) (List.mem_cons_of_mem _ tm3_131) rfl mA_0 rfl ?_
  refine jr_iconst (v := 1) C dMo_isFeature_6 (by decide) ?_
  refine jr_isub C dMo_isFeature_7 ?_
  refine jr_callSi (As := [.int l1, .int (0 : Int32), .int ((st 0 2) - (1 : Int32))]) (rest := []) C (c_Mo_isIn h) (va_cwS 3 C.2.2.2.2.1 (tg_S tm3_193 tm3_194 tm1_7 tm3_195) rfl rfl rfl ⟨by decide, by decide, by decide⟩ ⟨Nat.le_of_ble_eq_true rfl, Nat.le_of_ble_eq_true rfl⟩) dMo_isFeature_8 rfl rfl (Nat.le_of_ble_eq_true rfl) ⟨Nat.le_of_ble_eq_true rfl, Nat.le_of_ble_eq_true rfl⟩ (fun r2 st1 h => ?_)
  exact jr_retz C hr (jr_narz h.1) hlocks dMo_isFeature_11 h.2 rfl
def wp_Mo_example (st : jS) (l1 : Int32) (post : Int32 → jS → Prop) : Prop :=
  (∃ j1 : jS → Int32 → Prop, (∀ (st4 : jS) (v5 : Int32), j1 st4 v5 → ((((jq st4 0 0 v5) 0 0) ≤ 0 → vp_in ((jq st4 0 0 v5) 0 4) 24 ∧ post (((jq (jq (jq st4 0 0 v5) 2 (Int32.toNatClampNeg ((jq st4 0 0 v5) 0 4)) l1) 0 4 (((jq (jq st4 0 0 v5) 2 (Int32.toNatClampNeg ((jq st4 0 0 v5) 0 4)) l1) 0 4) + (1 : Int32))) 0 4) - (1 : Int32)) (jq (jq (jq st4 0 0 v5) 2 (Int32.toNatClampNeg ((jq st4 0 0 v5) 0 4)) l1) 0 4 (((jq (jq st4 0 0 v5) 2 (Int32.toNatClampNeg ((jq st4 0 0 v5) 0 4)) l1) 0 4) + (1 : Int32)))) ∧ (¬ ((jq st4 0 0 v5) 0 0) ≤ 0 → post (0 : Int32) (jq st4 0 0 v5)))) ∧ ((l1 = (-1 : Int32) → ((¬ (st 0 4) = (24 : Int32) → j1 st (0 : Int32)) ∧ ((st 0 4) = (24 : Int32) → j1 st (2 : Int32)))) ∧ (¬ l1 = (-1 : Int32) → wp_Mo_isKind st l1 (fun r3 st2 => ((¬ r3 = 0 → ((¬ (st2 0 4) = (24 : Int32) → j1 st2 (0 : Int32)) ∧ ((st2 0 4) = (24 : Int32) → j1 st2 (2 : Int32)))) ∧ (r3 = 0 → j1 st2 (1 : Int32)))))))
set_option maxRecDepth 100000 in
set_option maxHeartbeats 4000000 in
theorem c_Mo_example {st : jS} {l1 : Int32} {post : Int32 → jS → Prop} (h : wp_Mo_example st l1 post) : jr_Mi l yMo_example wMo_example ({ frames := 2, cells := 0, slots := 0, locals := 43 }) [.ref (ad 0), .int l1] D kC (kT cI cII cL cJ) (mW cI ad fr st) (mW cI ad fr) post := by
  refine jr_ofi (cc := bMo_example) (nL := 2) (lv := [(0, .ref (ad 0)), (1, .int l1)]) (by decide) rfl (Nat.le_of_ble_eq_true rfl) rfl (fun p e s m args below meth c A C hr hlocks => ?_)
  unfold wp_Mo_example at h
  refine jr_aload_n (q := 0) C dMo_example_0 rfl rfl ?_
  refine jr_iload_n (q := 1) C dMo_example_1 rfl rfl ?_
  refine jr_iconst (v := -1) C dMo_example_2 (by decide) ?_
  obtain ⟨j1, j1r, h⟩ := h
  have hj1 : ∀ (st4 : jS) (v5 : Int32), j1 st4 v5 → jr_J p l e (headSpec wMo_example ({ frames := 2, cells := 0, slots := 0, locals := 43 })).room s m args below meth c A D kC 2 0 0 (MQ below (va_Qi post (jr_B D kC (kT cI cII cL cJ) (mW cI ad fr) A) A) args s 0 0 A) (mW cI ad fr st4) 32 [(0, .ref (ad 0)), (1, .int l1)] [.int v5, .ref (ad 0)] := by
    intro st4 v5 h
    have h := j1r st4 v5 h
    refine jr_putf (k := 0) C dMo_example_32 inw_Mo ty_Mo ty_Mo_ok nm_Mo (rfl : kC[5]? = _) (by decide) (List.mem_cons_of_mem _ tm3_129) rfl rfl (ty := .int) rfl rfl rfl mA_0 (Nat.le_of_ble_eq_true rfl) ?_
    refine jr_ws (ws' := mW cI ad fr (jq st4 0 0 v5)) (mP_0_0) ?_
    refine jr_aload_n (q := 0) C dMo_example_35 rfl rfl ?_
    refine jr_getf (k := 0) C dMo_example_36 inw_Mo (rfl : kC[5]? = _) (by decide) (List.mem_cons_of_mem _ tm3_129) rfl mA_0 rfl ?_
    refine jr_if_le (tgt := 44) C dMo_example_39 (by decide) (fun z => ?_) (fun z => ?_)
    · have h := h.1 z
      refine jr_aload_n (q := 0) C dMo_example_44 rfl rfl ?_
      refine jr_getf (k := 5) C dMo_example_45 inw_Mo (rfl : kC[5]? = _) (by decide) (List.mem_cons_of_mem _ tm3_134) rfl mA_0 rfl ?_
      refine jr_aload_n (q := 0) C dMo_example_48 rfl rfl ?_
      refine jr_getf (k := 4) C dMo_example_49 inw_Mo (rfl : kC[5]? = _) (by decide) (List.mem_cons_of_mem _ tm3_133) rfl mA_0 rfl ?_
      refine jr_iload_n (q := 1) C dMo_example_52 rfl rfl ?_
      obtain ⟨h6, h⟩ := h
      refine jr_iast (t0 := 0) C dMo_example_53 mA_2 rfl h6 ?_
      refine jr_ws (ws' := mW cI ad fr (jq (jq st4 0 0 v5) 2 (Int32.toNatClampNeg ((jq st4 0 0 v5) 0 4)) l1)) (mP_2) ?_
      refine jr_aload_n (q := 0) C dMo_example_54 rfl rfl ?_
      refine jr_dup C dMo_example_55 rfl ?_
      refine jr_getf (k := 4) C dMo_example_56 inw_Mo (rfl : kC[5]? = _) (by decide) (List.mem_cons_of_mem _ tm3_133) rfl mA_0 rfl ?_
      refine jr_iconst (v := 1) C dMo_example_59 (by decide) ?_
      refine jr_iadd C dMo_example_60 ?_
      refine jr_putf (k := 4) C dMo_example_61 inw_Mo ty_Mo ty_Mo_ok nm_Mo (rfl : kC[5]? = _) (by decide) (List.mem_cons_of_mem _ tm3_133) rfl rfl (ty := .int) rfl rfl rfl mA_0 (Nat.le_of_ble_eq_true rfl) ?_
      refine jr_ws (ws' := mW cI ad fr (jq (jq (jq st4 0 0 v5) 2 (Int32.toNatClampNeg ((jq st4 0 0 v5) 0 4)) l1) 0 4 (((jq (jq st4 0 0 v5) 2 (Int32.toNatClampNeg ((jq st4 0 0 v5) 0 4)) l1) 0 4) + (1 : Int32)))) (mP_0_4) ?_
      refine jr_aload_n (q := 0) C dMo_example_64 rfl rfl ?_
      refine jr_getf (k := 4) C dMo_example_65 inw_Mo (rfl : kC[5]? = _) (by decide) (List.mem_cons_of_mem _ tm3_133) rfl mA_0 rfl ?_
      refine jr_iconst (v := 1) C dMo_example_68 (by decide) ?_
      refine jr_isub C dMo_example_69 ?_
      exact jr_reti C hr hlocks dMo_example_70 h rfl
    · have h := h.2 z
      refine jr_iconst (v := 0) C dMo_example_42 (by decide) ?_
      exact jr_reti C hr hlocks dMo_example_43 h rfl
  refine jr_icmp_eq (tgt := 18) C dMo_example_3 (by decide) (fun z => ?_) (fun z => ?_)
  · have h := h.1 z
    refine jr_aload_n (q := 0) C dMo_example_18 rfl rfl ?_
    refine jr_getf (k := 4) C dMo_example_19 inw_Mo (rfl : kC[5]? = _) (by decide) (List.mem_cons_of_mem _ tm3_133) rfl mA_0 rfl ?_
    refine jr_bipush (v := 24) C dMo_example_22 (by decide) ?_
    refine jr_icmp_ne (tgt := 31) C dMo_example_24 (by decide) (fun z => ?_) (fun z => ?_)
    · have h := h.1 z
      refine jr_iconst (v := 0) C dMo_example_31 (by decide) ?_
      refine jr_lv (lv' := [(0, .ref (ad 0)), (1, .int l1)]) [0, 1] rfl ?_
      exact hj1 st (0 : Int32) h
    · have h := h.2 z
      refine jr_iconst (v := 2) C dMo_example_27 (by decide) ?_
      refine jr_goto (tgt := 32) C dMo_example_28 (by decide) ?_
      refine jr_lv (lv' := [(0, .ref (ad 0)), (1, .int l1)]) [0, 1] rfl ?_
      exact hj1 st (2 : Int32) h
  · have h := h.2 z
    refine jr_aload_n (q := 0) C dMo_example_6 rfl rfl ?_
    refine jr_iload_n (q := 1) C dMo_example_7 rfl rfl ?_
    refine jr_callVi (As := [.int l1]) (rest := [.ref (ad 0)]) C (c_Mo_isKind h) (cwV 1 C.2.2.2.2.1 (tg_V tm3_189 tm3_191 tp_18 tm1_7 tm3_192) rfl rfl rfl ⟨rfl, by decide, by decide, by decide⟩ ⟨Nat.le_of_ble_eq_true rfl, Nat.le_of_ble_eq_true rfl⟩) dMo_example_8 (rfl : kC[5]? = _) mA_0 rfl rfl (Nat.le_of_ble_eq_true rfl) ⟨Nat.le_of_ble_eq_true rfl, Nat.le_of_ble_eq_true rfl⟩ (fun r3 st2 h => ?_)
    refine jr_if_ne (tgt := 18) C dMo_example_11 (by decide) (fun z => ?_) (fun z => ?_)
    · have h := h.1 z
      refine jr_aload_n (q := 0) C dMo_example_18 rfl rfl ?_
      refine jr_getf (k := 4) C dMo_example_19 inw_Mo (rfl : kC[5]? = _) (by decide) (List.mem_cons_of_mem _ tm3_133) rfl mA_0 rfl ?_
      refine jr_bipush (v := 24) C dMo_example_22 (by decide) ?_
      refine jr_icmp_ne (tgt := 31) C dMo_example_24 (by decide) (fun z => ?_) (fun z => ?_)
      · have h := h.1 z
        refine jr_iconst (v := 0) C dMo_example_31 (by decide) ?_
        refine jr_lv (lv' := [(0, .ref (ad 0)), (1, .int l1)]) [0, 1] rfl ?_
        exact hj1 st2 (0 : Int32) h
      · have h := h.2 z
        refine jr_iconst (v := 2) C dMo_example_27 (by decide) ?_
        refine jr_goto (tgt := 32) C dMo_example_28 (by decide) ?_
        refine jr_lv (lv' := [(0, .ref (ad 0)), (1, .int l1)]) [0, 1] rfl ?_
        exact hj1 st2 (2 : Int32) h
    · have h := h.2 z
      refine jr_iconst (v := 1) C dMo_example_14 (by decide) ?_
      refine jr_goto (tgt := 32) C dMo_example_15 (by decide) ?_
      refine jr_lv (lv' := [(0, .ref (ad 0)), (1, .int l1)]) [0, 1] rfl ?_
      exact hj1 st2 (1 : Int32) h
def wp_Mo_value (st : jS) (l1 : Int32) (l2 : Int32) (l3 : Int32) (post : Int32 → jS → Prop) : Prop :=
  wp_Mo_isExample st l1 (fun r2 st1 => (∃ j3 : jS → Int32 → Prop, (∀ (st8 : jS) (v9 : Int32), j3 st8 v9 → ((((jq st8 0 0 v9) 0 0) ≤ 0 → vp_in (((11 : Int32) * l1) + l2) 264 ∧ (∃ j11 : Int32 → Prop, (∀ (v12 : Int32), j11 v12 → vp_in (((11 : Int32) * l1) + l2) 264 ∧ (v12 = 0 ∨ v12 = 1) ∧ post v12 (jq (jq st8 0 0 v9) 3 (Int32.toNatClampNeg (((11 : Int32) * l1) + l2)) l3)) ∧ ((((jq st8 0 0 v9) 3 (Int32.toNatClampNeg (((11 : Int32) * l1) + l2))) = l3 → j11 (0 : Int32)) ∧ (¬ ((jq st8 0 0 v9) 3 (Int32.toNatClampNeg (((11 : Int32) * l1) + l2))) = l3 → j11 (1 : Int32))))) ∧ (¬ ((jq st8 0 0 v9) 0 0) ≤ 0 → post (0 : Int32) (jq st8 0 0 v9)))) ∧ ((r2 = 0 → j3 st1 (1 : Int32)) ∧ (¬ r2 = 0 → wp_Mo_isFeature st1 l2 (fun r5 st4 => ((¬ r5 = 0 → wp_Mo_isIn st4 l3 (0 : Int32) (2000 : Int32) (fun r7 st6 => ((¬ r7 = 0 → j3 st6 (0 : Int32)) ∧ (r7 = 0 → j3 st6 (2 : Int32))))) ∧ (r5 = 0 → j3 st4 (1 : Int32))))))))
set_option maxRecDepth 100000 in
set_option maxHeartbeats 4000000 in
theorem c_Mo_value {st : jS} {l1 : Int32} {l2 : Int32} {l3 : Int32} {post : Int32 → jS → Prop} (h : wp_Mo_value st l1 l2 l3 post) : jr_Mi l yMo_value wMo_value ({ frames := 2, cells := 0, slots := 0, locals := 43 }) [.ref (ad 0), .int l1, .int l2, .int l3] D kC (kT cI cII cL cJ) (mW cI ad fr st) (mW cI ad fr) post := by
  refine jr_ofz (cc := bMo_value) (nL := 5) (lv := [(0, .ref (ad 0)), (1, .int l1), (2, .int l2), (3, .int l3)]) (by decide) rfl (Nat.le_of_ble_eq_true rfl) rfl (fun p e s m args below meth c A C hr hlocks => ?_)
  unfold wp_Mo_value at h
  refine jr_aload_n (q := 0) C dMo_value_0 rfl rfl ?_
  refine jr_aload_n (q := 0) C dMo_value_1 rfl rfl ?_
  refine jr_iload_n (q := 1) C dMo_value_2 rfl rfl ?_
  refine jr_callVi (As := [.int l1]) (rest := [.ref (ad 0)]) C (c_Mo_isExample h) (cwV 1 C.2.2.2.2.1 (tg_V tm3_200 tm3_202 tp_19 tm1_7 tm3_203) rfl rfl rfl ⟨rfl, by decide, by decide, by decide⟩ ⟨Nat.le_of_ble_eq_true rfl, Nat.le_of_ble_eq_true rfl⟩) dMo_value_3 (rfl : kC[5]? = _) mA_0 rfl rfl (Nat.le_of_ble_eq_true rfl) ⟨Nat.le_of_ble_eq_true rfl, Nat.le_of_ble_eq_true rfl⟩ (fun r2 st1 h => ?_)
  obtain ⟨j3, j3r, h⟩ := h
  have hj3 : ∀ (st8 : jS) (v9 : Int32), j3 st8 v9 → jr_J p l e (headSpec wMo_value ({ frames := 2, cells := 0, slots := 0, locals := 43 })).room s m args below meth c A D kC 5 0 0 (MQ below (va_Qi post (jr_B D kC (kT cI cII cL cJ) (mW cI ad fr) A) A) args s 0 0 A) (mW cI ad fr st8) 37 [(0, .ref (ad 0)), (1, .int l1), (2, .int l2), (3, .int l3)] [.int v9, .ref (ad 0)] := by
    intro st8 v9 h
    have h := j3r st8 v9 h
    refine jr_putf (k := 0) C dMo_value_37 inw_Mo ty_Mo ty_Mo_ok nm_Mo (rfl : kC[5]? = _) (by decide) (List.mem_cons_of_mem _ tm3_129) rfl rfl (ty := .int) rfl rfl rfl mA_0 (Nat.le_of_ble_eq_true rfl) ?_
    refine jr_ws (ws' := mW cI ad fr (jq st8 0 0 v9)) (mP_0_0) ?_
    refine jr_aload_n (q := 0) C dMo_value_40 rfl rfl ?_
    refine jr_getf (k := 0) C dMo_value_41 inw_Mo (rfl : kC[5]? = _) (by decide) (List.mem_cons_of_mem _ tm3_129) rfl mA_0 rfl ?_
    refine jr_if_le (tgt := 49) C dMo_value_44 (by decide) (fun z => ?_) (fun z => ?_)
    · have h := h.1 z
      refine jr_aload_n (q := 0) C dMo_value_49 rfl rfl ?_
      refine jr_getf (k := 6) C dMo_value_50 inw_Mo (rfl : kC[5]? = _) (by decide) (List.mem_cons_of_mem _ tm3_135) rfl mA_0 rfl ?_
      refine jr_bipush (v := 11) C dMo_value_53 (by decide) ?_
      refine jr_iload_n (q := 1) C dMo_value_55 rfl rfl ?_
      refine jr_imul C dMo_value_56 ?_
      refine jr_iload_n (q := 2) C dMo_value_57 rfl rfl ?_
      refine jr_iadd C dMo_value_58 ?_
      obtain ⟨h10, h⟩ := h
      refine jr_iald (t0 := 0) C dMo_value_59 mA_3 rfl h10 ?_
      refine jr_iload_n (q := 3) C dMo_value_60 rfl rfl ?_
      obtain ⟨j11, j11r, h⟩ := h
      have hj11 : ∀ (v12 : Int32), j11 v12 → jr_J p l e (headSpec wMo_value ({ frames := 2, cells := 0, slots := 0, locals := 43 })).room s m args below meth c A D kC 5 0 0 (MQ below (va_Qi post (jr_B D kC (kT cI cII cL cJ) (mW cI ad fr) A) A) args s 0 0 A) (mW cI ad fr (jq st8 0 0 v9)) 69 [(0, .ref (ad 0)), (1, .int l1), (2, .int l2), (3, .int l3)] [.int v12] := by
        intro v12 h
        have h := j11r v12 h
        refine jr_istore (lv' := [(4, .int v12), (0, .ref (ad 0)), (1, .int l1), (2, .int l2), (3, .int l3)]) C dMo_value_69 (by decide) rfl ?_
        refine jr_aload_n (q := 1) C dMo_value_71 rfl rfl ?_
        refine jr_getf (k := 6) C dMo_value_72 inw_Mo (rfl : kC[5]? = _) (by decide) (List.mem_cons_of_mem _ tm3_135) rfl mA_0 rfl ?_
        refine jr_bipush (v := 11) C dMo_value_75 (by decide) ?_
        refine jr_iload_n (q := 2) C dMo_value_77 rfl rfl ?_
        refine jr_imul C dMo_value_78 ?_
        refine jr_iload_n (q := 3) C dMo_value_79 rfl rfl ?_
        refine jr_iadd C dMo_value_80 ?_
        refine jr_iload_n (q := 4) C dMo_value_81 rfl rfl ?_
        obtain ⟨h13, h⟩ := h
        refine jr_iast (t0 := 0) C dMo_value_82 mA_3 rfl h13 ?_
        refine jr_ws (ws' := mW cI ad fr (jq (jq st8 0 0 v9) 3 (Int32.toNatClampNeg (((11 : Int32) * l1) + l2)) l3)) (mP_3) ?_
        refine jr_iload (q := 0) C dMo_value_83 rfl ?_
        exact jr_retz C hr (jr_narz h.1) hlocks dMo_value_85 h.2 rfl
      refine jr_icmp_eq (tgt := 68) C dMo_value_61 (by decide) (fun z => ?_) (fun z => ?_)
      · have h := h.1 z
        refine jr_iconst (v := 0) C dMo_value_68 (by decide) ?_
        refine jr_lv (lv' := [(0, .ref (ad 0)), (1, .int l1), (2, .int l2), (3, .int l3)]) [0, 1, 2, 3] rfl ?_
        exact hj11 (0 : Int32) h
      · have h := h.2 z
        refine jr_iconst (v := 1) C dMo_value_64 (by decide) ?_
        refine jr_goto (tgt := 69) C dMo_value_65 (by decide) ?_
        refine jr_lv (lv' := [(0, .ref (ad 0)), (1, .int l1), (2, .int l2), (3, .int l3)]) [0, 1, 2, 3] rfl ?_
        exact hj11 (1 : Int32) h
    · have h := h.2 z
      refine jr_iconst (v := 0) C dMo_value_47 (by decide) ?_
      exact jr_retz C hr rfl hlocks dMo_value_48 h rfl
  refine jr_if_eq (tgt := 17) C dMo_value_6 (by decide) (fun z => ?_) (fun z => ?_)
  · have h := h.1 z
    refine jr_iconst (v := 1) C dMo_value_17 (by decide) ?_
    refine jr_goto (tgt := 37) C dMo_value_18 (by decide) ?_
    refine jr_lv (lv' := [(0, .ref (ad 0)), (1, .int l1), (2, .int l2), (3, .int l3)]) [0, 1, 2, 3] rfl ?_
    exact hj3 st1 (1 : Int32) h
  · have h := h.2 z
    refine jr_aload_n (q := 0) C dMo_value_9 rfl rfl ?_
    refine jr_iload_n (q := 2) C dMo_value_10 rfl rfl ?_
    refine jr_callVi (As := [.int l2]) (rest := [.ref (ad 0)]) C (c_Mo_isFeature h) (cwV 1 C.2.2.2.2.1 (tg_V tm3_204 tm3_206 tp_20 tm1_7 tm3_207) rfl rfl rfl ⟨rfl, by decide, by decide, by decide⟩ ⟨Nat.le_of_ble_eq_true rfl, Nat.le_of_ble_eq_true rfl⟩) dMo_value_11 (rfl : kC[5]? = _) mA_0 rfl rfl (Nat.le_of_ble_eq_true rfl) ⟨Nat.le_of_ble_eq_true rfl, Nat.le_of_ble_eq_true rfl⟩ (fun r5 st4 h => ?_)
    refine jr_if_ne (tgt := 21) C dMo_value_14 (by decide) (fun z => ?_) (fun z => ?_)
    · have h := h.1 z
      refine jr_iload_n (q := 3) C dMo_value_21 rfl rfl ?_
      refine jr_iconst (v := 0) C dMo_value_22 (by decide) ?_
      refine jr_sipush (v := 2000) C dMo_value_23 (by decide) ?_
      refine jr_callSi (As := [.int l3, .int (0 : Int32), .int (2000 : Int32)]) (rest := [.ref (ad 0)]) C (c_Mo_isIn h) (va_cwS 3 C.2.2.2.2.1 (tg_S tm3_193 tm3_194 tm1_7 tm3_195) rfl rfl rfl ⟨by decide, by decide, by decide⟩ ⟨Nat.le_of_ble_eq_true rfl, Nat.le_of_ble_eq_true rfl⟩) dMo_value_26 rfl rfl (Nat.le_of_ble_eq_true rfl) ⟨Nat.le_of_ble_eq_true rfl, Nat.le_of_ble_eq_true rfl⟩ (fun r7 st6 h => ?_)
      refine jr_if_ne (tgt := 36) C dMo_value_29 (by decide) (fun z => ?_) (fun z => ?_)
      · have h := h.1 z
        refine jr_iconst (v := 0) C dMo_value_36 (by decide) ?_
        refine jr_lv (lv' := [(0, .ref (ad 0)), (1, .int l1), (2, .int l2), (3, .int l3)]) [0, 1, 2, 3] rfl ?_
        exact hj3 st6 (0 : Int32) h
      · have h := h.2 z
        refine jr_iconst (v := 2) C dMo_value_32 (by decide) ?_
        refine jr_goto (tgt := 37) C dMo_value_33 (by decide) ?_
        refine jr_lv (lv' := [(0, .ref (ad 0)), (1, .int l1), (2, .int l2), (3, .int l3)]) [0, 1, 2, 3] rfl ?_
        exact hj3 st6 (2 : Int32) h
    · have h := h.2 z
      refine jr_iconst (v := 1) C dMo_value_17 (by decide) ?_
      refine jr_goto (tgt := 37) C dMo_value_18 (by decide) ?_
      refine jr_lv (lv' := [(0, .ref (ad 0)), (1, .int l1), (2, .int l2), (3, .int l3)]) [0, 1, 2, 3] rfl ?_
      exact hj3 st4 (1 : Int32) h
def wp_Mo_teach (st : jS) (l1 : Int32) (l2 : Int32) (post : Int32 → jS → Prop) : Prop :=
  wp_Mo_isExample st l1 (fun r2 st1 => (∃ j3 : jS → Int32 → Prop, (∀ (st6 : jS) (v7 : Int32), j3 st6 v7 → ((((jq st6 0 0 v7) 0 0) ≤ 0 → vp_in l1 24 ∧ vp_in l1 24 ∧ post ((jq st6 0 0 v7) 2 (Int32.toNatClampNeg l1)) (jq (jq st6 0 0 v7) 2 (Int32.toNatClampNeg l1) l2)) ∧ (¬ ((jq st6 0 0 v7) 0 0) ≤ 0 → post (0 : Int32) (jq st6 0 0 v7)))) ∧ ((r2 = 0 → j3 st1 (1 : Int32)) ∧ (¬ r2 = 0 → ((l2 = (-1 : Int32) → j3 st1 (0 : Int32)) ∧ (¬ l2 = (-1 : Int32) → wp_Mo_isKind st1 l2 (fun r5 st4 => ((¬ r5 = 0 → j3 st4 (0 : Int32)) ∧ (r5 = 0 → j3 st4 (1 : Int32))))))))))
set_option maxRecDepth 100000 in
set_option maxHeartbeats 4000000 in
theorem c_Mo_teach {st : jS} {l1 : Int32} {l2 : Int32} {post : Int32 → jS → Prop} (h : wp_Mo_teach st l1 l2 post) : jr_Mi l yMo_teach wMo_teach ({ frames := 2, cells := 0, slots := 0, locals := 43 }) [.ref (ad 0), .int l1, .int l2] D kC (kT cI cII cL cJ) (mW cI ad fr st) (mW cI ad fr) post := by
  refine jr_ofi (cc := bMo_teach) (nL := 4) (lv := [(0, .ref (ad 0)), (1, .int l1), (2, .int l2)]) (by decide) rfl (Nat.le_of_ble_eq_true rfl) rfl (fun p e s m args below meth c A C hr hlocks => ?_)
  unfold wp_Mo_teach at h
  refine jr_aload_n (q := 0) C dMo_teach_0 rfl rfl ?_
  refine jr_aload_n (q := 0) C dMo_teach_1 rfl rfl ?_
  refine jr_iload_n (q := 1) C dMo_teach_2 rfl rfl ?_
  refine jr_callVi (As := [.int l1]) (rest := [.ref (ad 0)]) C (c_Mo_isExample h) (cwV 1 C.2.2.2.2.1 (tg_V tm3_200 tm3_202 tp_19 tm1_7 tm3_203) rfl rfl rfl ⟨rfl, by decide, by decide, by decide⟩ ⟨Nat.le_of_ble_eq_true rfl, Nat.le_of_ble_eq_true rfl⟩) dMo_teach_3 (rfl : kC[5]? = _) mA_0 rfl rfl (Nat.le_of_ble_eq_true rfl) ⟨Nat.le_of_ble_eq_true rfl, Nat.le_of_ble_eq_true rfl⟩ (fun r2 st1 h => ?_)
  obtain ⟨j3, j3r, h⟩ := h
  have hj3 : ∀ (st6 : jS) (v7 : Int32), j3 st6 v7 → jr_J p l e (headSpec wMo_teach ({ frames := 2, cells := 0, slots := 0, locals := 43 })).room s m args below meth c A D kC 4 0 0 (MQ below (va_Qi post (jr_B D kC (kT cI cII cL cJ) (mW cI ad fr) A) A) args s 0 0 A) (mW cI ad fr st6) 27 [(0, .ref (ad 0)), (1, .int l1), (2, .int l2)] [.int v7, .ref (ad 0)] := by
    intro st6 v7 h
    have h := j3r st6 v7 h
    refine jr_putf (k := 0) C dMo_teach_27 inw_Mo ty_Mo ty_Mo_ok nm_Mo (rfl : kC[5]? = _) (by decide) (List.mem_cons_of_mem _ tm3_129) rfl rfl (ty := .int) rfl rfl rfl mA_0 (Nat.le_of_ble_eq_true rfl) ?_
    refine jr_ws (ws' := mW cI ad fr (jq st6 0 0 v7)) (mP_0_0) ?_
    refine jr_aload_n (q := 0) C dMo_teach_30 rfl rfl ?_
    refine jr_getf (k := 0) C dMo_teach_31 inw_Mo (rfl : kC[5]? = _) (by decide) (List.mem_cons_of_mem _ tm3_129) rfl mA_0 rfl ?_
    refine jr_if_le (tgt := 39) C dMo_teach_34 (by decide) (fun z => ?_) (fun z => ?_)
    · have h := h.1 z
      refine jr_aload_n (q := 0) C dMo_teach_39 rfl rfl ?_
      refine jr_getf (k := 5) C dMo_teach_40 inw_Mo (rfl : kC[5]? = _) (by decide) (List.mem_cons_of_mem _ tm3_134) rfl mA_0 rfl ?_
      refine jr_iload_n (q := 1) C dMo_teach_43 rfl rfl ?_
      obtain ⟨h8, h⟩ := h
      refine jr_iald (t0 := 0) C dMo_teach_44 mA_2 rfl h8 ?_
      refine jr_istore_n (lv' := [(3, .int ((jq st6 0 0 v7) 2 (Int32.toNatClampNeg l1))), (0, .ref (ad 0)), (1, .int l1), (2, .int l2)]) C dMo_teach_45 rfl (by decide) rfl ?_
      refine jr_aload_n (q := 1) C dMo_teach_46 rfl rfl ?_
      refine jr_getf (k := 5) C dMo_teach_47 inw_Mo (rfl : kC[5]? = _) (by decide) (List.mem_cons_of_mem _ tm3_134) rfl mA_0 rfl ?_
      refine jr_iload_n (q := 2) C dMo_teach_50 rfl rfl ?_
      refine jr_iload_n (q := 3) C dMo_teach_51 rfl rfl ?_
      obtain ⟨h9, h⟩ := h
      refine jr_iast (t0 := 0) C dMo_teach_52 mA_2 rfl h9 ?_
      refine jr_ws (ws' := mW cI ad fr (jq (jq st6 0 0 v7) 2 (Int32.toNatClampNeg l1) l2)) (mP_2) ?_
      refine jr_iload_n (q := 0) C dMo_teach_53 rfl rfl ?_
      exact jr_reti C hr hlocks dMo_teach_54 h rfl
    · have h := h.2 z
      refine jr_iconst (v := 0) C dMo_teach_37 (by decide) ?_
      exact jr_reti C hr hlocks dMo_teach_38 h rfl
  refine jr_if_eq (tgt := 22) C dMo_teach_6 (by decide) (fun z => ?_) (fun z => ?_)
  · have h := h.1 z
    refine jr_iconst (v := 1) C dMo_teach_22 (by decide) ?_
    refine jr_goto (tgt := 27) C dMo_teach_23 (by decide) ?_
    refine jr_lv (lv' := [(0, .ref (ad 0)), (1, .int l1), (2, .int l2)]) [0, 1, 2] rfl ?_
    exact hj3 st1 (1 : Int32) h
  · have h := h.2 z
    refine jr_iload_n (q := 2) C dMo_teach_9 rfl rfl ?_
    refine jr_iconst (v := -1) C dMo_teach_10 (by decide) ?_
    refine jr_icmp_eq (tgt := 26) C dMo_teach_11 (by decide) (fun z => ?_) (fun z => ?_)
    · have h := h.1 z
      refine jr_iconst (v := 0) C dMo_teach_26 (by decide) ?_
      refine jr_lv (lv' := [(0, .ref (ad 0)), (1, .int l1), (2, .int l2)]) [0, 1, 2] rfl ?_
      exact hj3 st1 (0 : Int32) h
    · have h := h.2 z
      refine jr_aload_n (q := 0) C dMo_teach_14 rfl rfl ?_
      refine jr_iload_n (q := 2) C dMo_teach_15 rfl rfl ?_
      refine jr_callVi (As := [.int l2]) (rest := [.ref (ad 0)]) C (c_Mo_isKind h) (cwV 1 C.2.2.2.2.1 (tg_V tm3_189 tm3_191 tp_18 tm1_7 tm3_192) rfl rfl rfl ⟨rfl, by decide, by decide, by decide⟩ ⟨Nat.le_of_ble_eq_true rfl, Nat.le_of_ble_eq_true rfl⟩) dMo_teach_16 (rfl : kC[5]? = _) mA_0 rfl rfl (Nat.le_of_ble_eq_true rfl) ⟨Nat.le_of_ble_eq_true rfl, Nat.le_of_ble_eq_true rfl⟩ (fun r5 st4 h => ?_)
      refine jr_if_ne (tgt := 26) C dMo_teach_19 (by decide) (fun z => ?_) (fun z => ?_)
      · have h := h.1 z
        refine jr_iconst (v := 0) C dMo_teach_26 (by decide) ?_
        refine jr_lv (lv' := [(0, .ref (ad 0)), (1, .int l1), (2, .int l2)]) [0, 1, 2] rfl ?_
        exact hj3 st4 (0 : Int32) h
      · have h := h.2 z
        refine jr_iconst (v := 1) C dMo_teach_22 (by decide) ?_
        refine jr_goto (tgt := 27) C dMo_teach_23 (by decide) ?_
        refine jr_lv (lv' := [(0, .ref (ad 0)), (1, .int l1), (2, .int l2)]) [0, 1, 2] rfl ?_
        exact hj3 st4 (1 : Int32) h
def wp_Mo_width (st : jS) (l1 : Int32) (l2 : Int32) (post : Int32 → jS → Prop) : Prop :=
  wp_Mo_isFeature st l1 (fun r2 st1 => (∃ j3 : jS → Int32 → Prop, (∀ (st6 : jS) (v7 : Int32), j3 st6 v7 → ((((jq st6 0 0 v7) 0 0) ≤ 0 → vp_in l1 11 ∧ vp_in l1 11 ∧ post ((jq st6 0 0 v7) 1 (Int32.toNatClampNeg l1)) (jq (jq st6 0 0 v7) 1 (Int32.toNatClampNeg l1) l2)) ∧ (¬ ((jq st6 0 0 v7) 0 0) ≤ 0 → post (0 : Int32) (jq st6 0 0 v7)))) ∧ ((¬ r2 = 0 → wp_Mo_isIn st1 l2 (1 : Int32) (1000 : Int32) (fun r5 st4 => ((¬ r5 = 0 → j3 st4 (0 : Int32)) ∧ (r5 = 0 → j3 st4 (2 : Int32))))) ∧ (r2 = 0 → j3 st1 (1 : Int32)))))
set_option maxRecDepth 100000 in
set_option maxHeartbeats 4000000 in
theorem c_Mo_width {st : jS} {l1 : Int32} {l2 : Int32} {post : Int32 → jS → Prop} (h : wp_Mo_width st l1 l2 post) : jr_Mi l yMo_width wMo_width ({ frames := 2, cells := 0, slots := 0, locals := 43 }) [.ref (ad 0), .int l1, .int l2] D kC (kT cI cII cL cJ) (mW cI ad fr st) (mW cI ad fr) post := by
  refine jr_ofi (cc := bMo_width) (nL := 4) (lv := [(0, .ref (ad 0)), (1, .int l1), (2, .int l2)]) (by decide) rfl (Nat.le_of_ble_eq_true rfl) rfl (fun p e s m args below meth c A C hr hlocks => ?_)
  unfold wp_Mo_width at h
  refine jr_aload_n (q := 0) C dMo_width_0 rfl rfl ?_
  refine jr_aload_n (q := 0) C dMo_width_1 rfl rfl ?_
  refine jr_iload_n (q := 1) C dMo_width_2 rfl rfl ?_
  refine jr_callVi (As := [.int l1]) (rest := [.ref (ad 0)]) C (c_Mo_isFeature h) (cwV 1 C.2.2.2.2.1 (tg_V tm3_204 tm3_206 tp_20 tm1_7 tm3_207) rfl rfl rfl ⟨rfl, by decide, by decide, by decide⟩ ⟨Nat.le_of_ble_eq_true rfl, Nat.le_of_ble_eq_true rfl⟩) dMo_width_3 (rfl : kC[5]? = _) mA_0 rfl rfl (Nat.le_of_ble_eq_true rfl) ⟨Nat.le_of_ble_eq_true rfl, Nat.le_of_ble_eq_true rfl⟩ (fun r2 st1 h => ?_)
  obtain ⟨j3, j3r, h⟩ := h
  have hj3 : ∀ (st6 : jS) (v7 : Int32), j3 st6 v7 → jr_J p l e (headSpec wMo_width ({ frames := 2, cells := 0, slots := 0, locals := 43 })).room s m args below meth c A D kC 4 0 0 (MQ below (va_Qi post (jr_B D kC (kT cI cII cL cJ) (mW cI ad fr) A) A) args s 0 0 A) (mW cI ad fr st6) 29 [(0, .ref (ad 0)), (1, .int l1), (2, .int l2)] [.int v7, .ref (ad 0)] := by
    intro st6 v7 h
    have h := j3r st6 v7 h
    refine jr_putf (k := 0) C dMo_width_29 inw_Mo ty_Mo ty_Mo_ok nm_Mo (rfl : kC[5]? = _) (by decide) (List.mem_cons_of_mem _ tm3_129) rfl rfl (ty := .int) rfl rfl rfl mA_0 (Nat.le_of_ble_eq_true rfl) ?_
    refine jr_ws (ws' := mW cI ad fr (jq st6 0 0 v7)) (mP_0_0) ?_
    refine jr_aload_n (q := 0) C dMo_width_32 rfl rfl ?_
    refine jr_getf (k := 0) C dMo_width_33 inw_Mo (rfl : kC[5]? = _) (by decide) (List.mem_cons_of_mem _ tm3_129) rfl mA_0 rfl ?_
    refine jr_if_le (tgt := 41) C dMo_width_36 (by decide) (fun z => ?_) (fun z => ?_)
    · have h := h.1 z
      refine jr_aload_n (q := 0) C dMo_width_41 rfl rfl ?_
      refine jr_getf (k := 3) C dMo_width_42 inw_Mo (rfl : kC[5]? = _) (by decide) (List.mem_cons_of_mem _ tm3_132) rfl mA_0 rfl ?_
      refine jr_iload_n (q := 1) C dMo_width_45 rfl rfl ?_
      obtain ⟨h8, h⟩ := h
      refine jr_iald (t0 := 0) C dMo_width_46 mA_1 rfl h8 ?_
      refine jr_istore_n (lv' := [(3, .int ((jq st6 0 0 v7) 1 (Int32.toNatClampNeg l1))), (0, .ref (ad 0)), (1, .int l1), (2, .int l2)]) C dMo_width_47 rfl (by decide) rfl ?_
      refine jr_aload_n (q := 1) C dMo_width_48 rfl rfl ?_
      refine jr_getf (k := 3) C dMo_width_49 inw_Mo (rfl : kC[5]? = _) (by decide) (List.mem_cons_of_mem _ tm3_132) rfl mA_0 rfl ?_
      refine jr_iload_n (q := 2) C dMo_width_52 rfl rfl ?_
      refine jr_iload_n (q := 3) C dMo_width_53 rfl rfl ?_
      obtain ⟨h9, h⟩ := h
      refine jr_iast (t0 := 0) C dMo_width_54 mA_1 rfl h9 ?_
      refine jr_ws (ws' := mW cI ad fr (jq (jq st6 0 0 v7) 1 (Int32.toNatClampNeg l1) l2)) (mP_1) ?_
      refine jr_iload_n (q := 0) C dMo_width_55 rfl rfl ?_
      exact jr_reti C hr hlocks dMo_width_56 h rfl
    · have h := h.2 z
      refine jr_iconst (v := 0) C dMo_width_39 (by decide) ?_
      exact jr_reti C hr hlocks dMo_width_40 h rfl
  refine jr_if_ne (tgt := 13) C dMo_width_6 (by decide) (fun z => ?_) (fun z => ?_)
  · have h := h.1 z
    refine jr_iload_n (q := 2) C dMo_width_13 rfl rfl ?_
    refine jr_iconst (v := 1) C dMo_width_14 (by decide) ?_
    refine jr_sipush (v := 1000) C dMo_width_15 (by decide) ?_
    refine jr_callSi (As := [.int l2, .int (1 : Int32), .int (1000 : Int32)]) (rest := [.ref (ad 0)]) C (c_Mo_isIn h) (va_cwS 3 C.2.2.2.2.1 (tg_S tm3_193 tm3_194 tm1_7 tm3_195) rfl rfl rfl ⟨by decide, by decide, by decide⟩ ⟨Nat.le_of_ble_eq_true rfl, Nat.le_of_ble_eq_true rfl⟩) dMo_width_18 rfl rfl (Nat.le_of_ble_eq_true rfl) ⟨Nat.le_of_ble_eq_true rfl, Nat.le_of_ble_eq_true rfl⟩ (fun r5 st4 h => ?_)
    refine jr_if_ne (tgt := 28) C dMo_width_21 (by decide) (fun z => ?_) (fun z => ?_)
    · have h := h.1 z
      refine jr_iconst (v := 0) C dMo_width_28 (by decide) ?_
      refine jr_lv (lv' := [(0, .ref (ad 0)), (1, .int l1), (2, .int l2)]) [0, 1, 2] rfl ?_
      exact hj3 st4 (0 : Int32) h
    · have h := h.2 z
      refine jr_iconst (v := 2) C dMo_width_24 (by decide) ?_
      refine jr_goto (tgt := 29) C dMo_width_25 (by decide) ?_
      refine jr_lv (lv' := [(0, .ref (ad 0)), (1, .int l1), (2, .int l2)]) [0, 1, 2] rfl ?_
      exact hj3 st4 (2 : Int32) h
  · have h := h.2 z
    refine jr_iconst (v := 1) C dMo_width_9 (by decide) ?_
    refine jr_goto (tgt := 29) C dMo_width_10 (by decide) ?_
    refine jr_lv (lv' := [(0, .ref (ad 0)), (1, .int l1), (2, .int l2)]) [0, 1, 2] rfl ?_
    exact hj3 st1 (1 : Int32) h
def wp_Mo_cellOf (st : jS) (l1 : Int32) (l2 : Int32) (post : Int32 → jS → Prop) : Prop :=
  vp_in (((11 : Int32) * l1) + l2) 264 ∧ vp_in l2 11 ∧ (¬ (st 1 (Int32.toNatClampNeg l2)) = 0) ∧ post ((st 3 (Int32.toNatClampNeg (((11 : Int32) * l1) + l2))) / (st 1 (Int32.toNatClampNeg l2))) st
set_option maxRecDepth 100000 in
set_option maxHeartbeats 4000000 in
theorem c_Mo_cellOf {st : jS} {l1 : Int32} {l2 : Int32} {post : Int32 → jS → Prop} (h : wp_Mo_cellOf st l1 l2 post) : jr_Mi l yMo_cellOf wMo_cellOf ({ frames := 0, cells := 0, slots := 0, locals := 0 }) [.ref (ad 0), .int l1, .int l2] D kC (kT cI cII cL cJ) (mW cI ad fr st) (mW cI ad fr) post := by
  refine jr_ofi (cc := bMo_cellOf) (nL := 3) (lv := [(0, .ref (ad 0)), (1, .int l1), (2, .int l2)]) (by decide) rfl (Nat.le_of_ble_eq_true rfl) rfl (fun p e s m args below meth c A C hr hlocks => ?_)
  unfold wp_Mo_cellOf at h
  refine jr_aload_n (q := 0) C dMo_cellOf_0 rfl rfl ?_
  refine jr_getf (k := 6) C dMo_cellOf_1 inw_Mo (rfl : kC[5]? = _) (by decide) (List.mem_cons_of_mem _ tm3_135) rfl mA_0 rfl ?_
  refine jr_bipush (v := 11) C dMo_cellOf_4 (by decide) ?_
  refine jr_iload_n (q := 1) C dMo_cellOf_6 rfl rfl ?_
  refine jr_imul C dMo_cellOf_7 ?_
  refine jr_iload_n (q := 2) C dMo_cellOf_8 rfl rfl ?_
  refine jr_iadd C dMo_cellOf_9 ?_
  obtain ⟨h1, h⟩ := h
  refine jr_iald (t0 := 0) C dMo_cellOf_10 mA_3 rfl h1 ?_
  refine jr_aload_n (q := 0) C dMo_cellOf_11 rfl rfl ?_
  refine jr_getf (k := 3) C dMo_cellOf_12 inw_Mo (rfl : kC[5]? = _) (by decide) (List.mem_cons_of_mem _ tm3_132) rfl mA_0 rfl ?_
  refine jr_iload_n (q := 2) C dMo_cellOf_15 rfl rfl ?_
  obtain ⟨h2, h⟩ := h
  refine jr_iald (t0 := 0) C dMo_cellOf_16 mA_1 rfl h2 ?_
  obtain ⟨h3, h⟩ := h
  refine jr_idiv C dMo_cellOf_17 h3 ?_
  exact jr_reti C hr hlocks dMo_cellOf_18 h rfl
def wp_Mo_cell (st : jS) (l1 : Int32) (l2 : Int32) (post : Int32 → jS → Prop) : Prop :=
  wp_Mo_isExample st l1 (fun r2 st1 => (∃ j3 : jS → Int32 → Prop, (∀ (st6 : jS) (v7 : Int32), j3 st6 v7 → ((((jq st6 0 0 v7) 0 0) ≤ 0 → wp_Mo_cellOf (jq st6 0 0 v7) l1 l2 (fun r9 st8 => post r9 st8)) ∧ (¬ ((jq st6 0 0 v7) 0 0) ≤ 0 → post (0 : Int32) (jq st6 0 0 v7)))) ∧ ((r2 = 0 → j3 st1 (1 : Int32)) ∧ (¬ r2 = 0 → wp_Mo_isFeature st1 l2 (fun r5 st4 => ((¬ r5 = 0 → j3 st4 (0 : Int32)) ∧ (r5 = 0 → j3 st4 (1 : Int32))))))))
set_option maxRecDepth 100000 in
set_option maxHeartbeats 4000000 in
theorem c_Mo_cell {st : jS} {l1 : Int32} {l2 : Int32} {post : Int32 → jS → Prop} (h : wp_Mo_cell st l1 l2 post) : jr_Mi l yMo_cell wMo_cell ({ frames := 2, cells := 0, slots := 0, locals := 43 }) [.ref (ad 0), .int l1, .int l2] D kC (kT cI cII cL cJ) (mW cI ad fr st) (mW cI ad fr) post := by
  refine jr_ofi (cc := bMo_cell) (nL := 3) (lv := [(0, .ref (ad 0)), (1, .int l1), (2, .int l2)]) (by decide) rfl (Nat.le_of_ble_eq_true rfl) rfl (fun p e s m args below meth c A C hr hlocks => ?_)
  unfold wp_Mo_cell at h
  refine jr_aload_n (q := 0) C dMo_cell_0 rfl rfl ?_
  refine jr_aload_n (q := 0) C dMo_cell_1 rfl rfl ?_
  refine jr_iload_n (q := 1) C dMo_cell_2 rfl rfl ?_
  refine jr_callVi (As := [.int l1]) (rest := [.ref (ad 0)]) C (c_Mo_isExample h) (cwV 1 C.2.2.2.2.1 (tg_V tm3_200 tm3_202 tp_19 tm1_7 tm3_203) rfl rfl rfl ⟨rfl, by decide, by decide, by decide⟩ ⟨Nat.le_of_ble_eq_true rfl, Nat.le_of_ble_eq_true rfl⟩) dMo_cell_3 (rfl : kC[5]? = _) mA_0 rfl rfl (Nat.le_of_ble_eq_true rfl) ⟨Nat.le_of_ble_eq_true rfl, Nat.le_of_ble_eq_true rfl⟩ (fun r2 st1 h => ?_)
  obtain ⟨j3, j3r, h⟩ := h
  have hj3 : ∀ (st6 : jS) (v7 : Int32), j3 st6 v7 → jr_J p l e (headSpec wMo_cell ({ frames := 2, cells := 0, slots := 0, locals := 43 })).room s m args below meth c A D kC 3 0 0 (MQ below (va_Qi post (jr_B D kC (kT cI cII cL cJ) (mW cI ad fr) A) A) args s 0 0 A) (mW cI ad fr st6) 22 [(0, .ref (ad 0)), (1, .int l1), (2, .int l2)] [.int v7, .ref (ad 0)] := by
    intro st6 v7 h
    have h := j3r st6 v7 h
    refine jr_putf (k := 0) C dMo_cell_22 inw_Mo ty_Mo ty_Mo_ok nm_Mo (rfl : kC[5]? = _) (by decide) (List.mem_cons_of_mem _ tm3_129) rfl rfl (ty := .int) rfl rfl rfl mA_0 (Nat.le_of_ble_eq_true rfl) ?_
    refine jr_ws (ws' := mW cI ad fr (jq st6 0 0 v7)) (mP_0_0) ?_
    refine jr_aload_n (q := 0) C dMo_cell_25 rfl rfl ?_
    refine jr_getf (k := 0) C dMo_cell_26 inw_Mo (rfl : kC[5]? = _) (by decide) (List.mem_cons_of_mem _ tm3_129) rfl mA_0 rfl ?_
    refine jr_if_le (tgt := 36) C dMo_cell_29 (by decide) (fun z => ?_) (fun z => ?_)
    · have h := h.1 z
      refine jr_aload_n (q := 0) C dMo_cell_36 rfl rfl ?_
      refine jr_iload_n (q := 1) C dMo_cell_37 rfl rfl ?_
      refine jr_iload_n (q := 2) C dMo_cell_38 rfl rfl ?_
      refine jr_callVi (As := [.int l1, .int l2]) (rest := []) C (c_Mo_cellOf h) (cwV 2 C.2.2.2.2.1 (tg_V tm3_220 tm3_222 tp_21 tm1_7 tm3_223) rfl rfl rfl ⟨rfl, by decide, by decide, by decide⟩ ⟨Nat.le_of_ble_eq_true rfl, Nat.le_of_ble_eq_true rfl⟩) dMo_cell_39 (rfl : kC[5]? = _) mA_0 rfl rfl (Nat.le_of_ble_eq_true rfl) ⟨Nat.le_of_ble_eq_true rfl, Nat.le_of_ble_eq_true rfl⟩ (fun r9 st8 h => ?_)
      exact jr_reti C hr hlocks dMo_cell_42 h rfl
    · have h := h.2 z
      refine jr_iconst (v := 0) C dMo_cell_32 (by decide) ?_
      refine jr_goto (tgt := 42) C dMo_cell_33 (by decide) ?_
      exact jr_reti C hr hlocks dMo_cell_42 h rfl
  refine jr_if_eq (tgt := 17) C dMo_cell_6 (by decide) (fun z => ?_) (fun z => ?_)
  · have h := h.1 z
    refine jr_iconst (v := 1) C dMo_cell_17 (by decide) ?_
    refine jr_goto (tgt := 22) C dMo_cell_18 (by decide) ?_
    refine jr_lv (lv' := [(0, .ref (ad 0)), (1, .int l1), (2, .int l2)]) [0, 1, 2] rfl ?_
    exact hj3 st1 (1 : Int32) h
  · have h := h.2 z
    refine jr_aload_n (q := 0) C dMo_cell_9 rfl rfl ?_
    refine jr_iload_n (q := 2) C dMo_cell_10 rfl rfl ?_
    refine jr_callVi (As := [.int l2]) (rest := [.ref (ad 0)]) C (c_Mo_isFeature h) (cwV 1 C.2.2.2.2.1 (tg_V tm3_204 tm3_206 tp_20 tm1_7 tm3_207) rfl rfl rfl ⟨rfl, by decide, by decide, by decide⟩ ⟨Nat.le_of_ble_eq_true rfl, Nat.le_of_ble_eq_true rfl⟩) dMo_cell_11 (rfl : kC[5]? = _) mA_0 rfl rfl (Nat.le_of_ble_eq_true rfl) ⟨Nat.le_of_ble_eq_true rfl, Nat.le_of_ble_eq_true rfl⟩ (fun r5 st4 h => ?_)
    refine jr_if_ne (tgt := 21) C dMo_cell_14 (by decide) (fun z => ?_) (fun z => ?_)
    · have h := h.1 z
      refine jr_iconst (v := 0) C dMo_cell_21 (by decide) ?_
      refine jr_lv (lv' := [(0, .ref (ad 0)), (1, .int l1), (2, .int l2)]) [0, 1, 2] rfl ?_
      exact hj3 st4 (0 : Int32) h
    · have h := h.2 z
      refine jr_iconst (v := 1) C dMo_cell_17 (by decide) ?_
      refine jr_goto (tgt := 22) C dMo_cell_18 (by decide) ?_
      refine jr_lv (lv' := [(0, .ref (ad 0)), (1, .int l1), (2, .int l2)]) [0, 1, 2] rfl ?_
      exact hj3 st4 (1 : Int32) h
def wp_Mo_votesOf_18 (post : Int32 → jS → Prop) (kont : jS → Int32 → Int32 → Int32 → Int32 → Int32 → Int32 → Int32 → Prop) : Nat → jS → Int32 → Int32 → Int32 → Int32 → Int32 → Int32 → Int32 → Prop
  | 0 => fun _ _ _ _ _ _ _ _ => False
  | n + 1 => fun st x1 x2 x3 x4 x5 x6 x7 => ((x4 ≤ x7 → kont st x1 x2 x3 x4 x5 x6 x7) ∧ (¬ x4 ≤ x7 → ((x6 = x1 → kont st x1 x2 x3 x4 x5 x6 x7) ∧ (¬ x6 = x1 → vp_in x6 24 ∧ ((¬ (st 2 (Int32.toNatClampNeg x6)) = x2 → kont st x1 x2 x3 x4 x5 x6 x7) ∧ ((st 2 (Int32.toNatClampNeg x6)) = x2 → wp_Mo_cellOf st x6 x7 (fun r3 st2 => wp_Mo_cellOf st2 x1 x7 (fun r5 st4 => ((¬ r3 = r5 → wp_Mo_votesOf_18 post kont n st4 x1 x2 x3 x4 x5 x6 (x7 + (1 : Int32))) ∧ (r3 = r5 → wp_Mo_votesOf_18 post kont n st4 x1 x2 x3 x4 (x5 + (1 : Int32)) x6 (x7 + (1 : Int32))))))))))))
def wp_Mo_votesOf_6 (post : Int32 → jS → Prop) : Nat → jS → Int32 → Int32 → Int32 → Int32 → Int32 → Int32 → Prop
  | 0 => fun _ _ _ _ _ _ _ => False
  | n + 1 => fun st x1 x2 x3 x4 x5 x6 => (((st 0 4) ≤ x6 → post x5 st) ∧ (¬ (st 0 4) ≤ x6 → (∃ n16, wp_Mo_votesOf_18 post (fun st8 y9 y10 y11 y12 y13 y14 y15 => wp_Mo_votesOf_6 post n st8 y9 y10 y11 y12 y13 (y14 + (1 : Int32))) n16 st x1 x2 x3 x4 x5 x6 x3)))
def wp_Mo_votesOf (st : jS) (l1 : Int32) (l2 : Int32) (l3 : Int32) (l4 : Int32) (post : Int32 → jS → Prop) : Prop :=
  (∃ n19, wp_Mo_votesOf_6 post n19 st l1 l2 l3 l4 (0 : Int32) (0 : Int32))
set_option maxRecDepth 100000 in
set_option maxHeartbeats 4000000 in
theorem c_Mo_votesOf {st : jS} {l1 : Int32} {l2 : Int32} {l3 : Int32} {l4 : Int32} {post : Int32 → jS → Prop} (h : wp_Mo_votesOf st l1 l2 l3 l4 post) : jr_Mi l yMo_votesOf wMo_votesOf ({ frames := 1, cells := 0, slots := 0, locals := 22 }) [.ref (ad 0), .int l1, .int l2, .int l3, .int l4] D kC (kT cI cII cL cJ) (mW cI ad fr st) (mW cI ad fr) post := by
  refine jr_ofi (cc := bMo_votesOf) (nL := 8) (lv := [(0, .ref (ad 0)), (1, .int l1), (2, .int l2), (3, .int l3), (4, .int l4)]) (by decide) rfl (Nat.le_of_ble_eq_true rfl) rfl (fun p e s m args below meth c A C hr hlocks => ?_)
  unfold wp_Mo_votesOf at h
  refine jr_iconst (v := 0) C dMo_votesOf_0 (by decide) ?_
  refine jr_istore (lv' := [(5, .int (0 : Int32)), (0, .ref (ad 0)), (1, .int l1), (2, .int l2), (3, .int l3), (4, .int l4)]) C dMo_votesOf_1 (by decide) rfl ?_
  refine jr_iconst (v := 0) C dMo_votesOf_3 (by decide) ?_
  refine jr_istore (lv' := [(6, .int (0 : Int32)), (5, .int (0 : Int32)), (0, .ref (ad 0)), (1, .int l1), (2, .int l2), (3, .int l3), (4, .int l4)]) C dMo_votesOf_4 (by decide) rfl ?_
  have lp17 : ∀ (n : Nat) (st : jS) (x1 : Int32) (x2 : Int32) (x3 : Int32) (x4 : Int32) (x5 : Int32) (x6 : Int32), wp_Mo_votesOf_6 post n st x1 x2 x3 x4 x5 x6 → jr_J p l e (headSpec wMo_votesOf ({ frames := 1, cells := 0, slots := 0, locals := 22 })).room s m args below meth c A D kC 8 0 0 (MQ below (va_Qi post (jr_B D kC (kT cI cII cL cJ) (mW cI ad fr) A) A) args s 0 0 A) (mW cI ad fr st) 6 [(0, .ref (ad 0)), (1, .int x1), (2, .int x2), (3, .int x3), (4, .int x4), (5, .int x5), (6, .int x6)] [] := by
    intro n
    induction n with
    | zero => intro st x1 x2 x3 x4 x5 x6 h; exact h.elim
    | succ n ih =>
      intro st x1 x2 x3 x4 x5 x6 h
      unfold wp_Mo_votesOf_6 at h
      refine jr_iload (q := 6) C dMo_votesOf_6 rfl ?_
      refine jr_aload_n (q := 0) C dMo_votesOf_8 rfl rfl ?_
      refine jr_getf (k := 4) C dMo_votesOf_9 inw_Mo (rfl : kC[5]? = _) (by decide) (List.mem_cons_of_mem _ tm3_133) rfl mA_0 rfl ?_
      refine jr_icmp_ge (tgt := 83) C dMo_votesOf_12 (by decide) (fun z => ?_) (fun z => ?_)
      · have h := h.1 z
        refine jr_iload (q := 5) C dMo_votesOf_83 rfl ?_
        exact jr_reti C hr hlocks dMo_votesOf_85 h rfl
      · have h := h.2 z
        refine jr_iload_n (q := 3) C dMo_votesOf_15 rfl rfl ?_
        refine jr_istore (lv' := [(7, .int x3), (0, .ref (ad 0)), (1, .int x1), (2, .int x2), (3, .int x3), (4, .int x4), (5, .int x5), (6, .int x6)]) C dMo_votesOf_16 (by decide) rfl ?_
        have lp6 : ∀ (kont : jS → Int32 → Int32 → Int32 → Int32 → Int32 → Int32 → Int32 → Prop) (hk : ∀ (st : jS) (x1 : Int32) (x2 : Int32) (x3 : Int32) (x4 : Int32) (x5 : Int32) (x6 : Int32) (x7 : Int32), kont st x1 x2 x3 x4 x5 x6 x7 → jr_J p l e (headSpec wMo_votesOf ({ frames := 1, cells := 0, slots := 0, locals := 22 })).room s m args below meth c A D kC 8 0 0 (MQ below (va_Qi post (jr_B D kC (kT cI cII cL cJ) (mW cI ad fr) A) A) args s 0 0 A) (mW cI ad fr st) 77 [(0, .ref (ad 0)), (1, .int x1), (2, .int x2), (3, .int x3), (4, .int x4), (5, .int x5), (6, .int x6), (7, .int x7)] []) (n : Nat) (st : jS) (x1 : Int32) (x2 : Int32) (x3 : Int32) (x4 : Int32) (x5 : Int32) (x6 : Int32) (x7 : Int32), wp_Mo_votesOf_18 post kont n st x1 x2 x3 x4 x5 x6 x7 → jr_J p l e (headSpec wMo_votesOf ({ frames := 1, cells := 0, slots := 0, locals := 22 })).room s m args below meth c A D kC 8 0 0 (MQ below (va_Qi post (jr_B D kC (kT cI cII cL cJ) (mW cI ad fr) A) A) args s 0 0 A) (mW cI ad fr st) 18 [(0, .ref (ad 0)), (1, .int x1), (2, .int x2), (3, .int x3), (4, .int x4), (5, .int x5), (6, .int x6), (7, .int x7)] [] := by
          intro kont hk n
          induction n with
          | zero => intro st x1 x2 x3 x4 x5 x6 x7 h; exact h.elim
          | succ n ih =>
            intro st x1 x2 x3 x4 x5 x6 x7 h
            unfold wp_Mo_votesOf_18 at h
            refine jr_iload (q := 7) C dMo_votesOf_18 rfl ?_
            refine jr_iload (q := 4) C dMo_votesOf_20 rfl ?_
            refine jr_icmp_ge (tgt := 77) C dMo_votesOf_22 (by decide) (fun z => ?_) (fun z => ?_)
            · have h := h.1 z
              refine jr_lv (lv' := [(0, .ref (ad 0)), (1, .int x1), (2, .int x2), (3, .int x3), (4, .int x4), (5, .int x5), (6, .int x6), (7, .int x7)]) [0, 1, 2, 3, 4, 5, 6, 7] rfl ?_
              exact hk st x1 x2 x3 x4 x5 x6 x7 h
            · have h := h.2 z
              refine jr_iload (q := 6) C dMo_votesOf_25 rfl ?_
              refine jr_iload_n (q := 1) C dMo_votesOf_27 rfl rfl ?_
              refine jr_icmp_eq (tgt := 77) C dMo_votesOf_28 (by decide) (fun z => ?_) (fun z => ?_)
              · have h := h.1 z
                refine jr_lv (lv' := [(0, .ref (ad 0)), (1, .int x1), (2, .int x2), (3, .int x3), (4, .int x4), (5, .int x5), (6, .int x6), (7, .int x7)]) [0, 1, 2, 3, 4, 5, 6, 7] rfl ?_
                exact hk st x1 x2 x3 x4 x5 x6 x7 h
              · have h := h.2 z
                refine jr_aload_n (q := 0) C dMo_votesOf_31 rfl rfl ?_
                refine jr_getf (k := 5) C dMo_votesOf_32 inw_Mo (rfl : kC[5]? = _) (by decide) (List.mem_cons_of_mem _ tm3_134) rfl mA_0 rfl ?_
                refine jr_iload (q := 6) C dMo_votesOf_35 rfl ?_
                obtain ⟨h1, h⟩ := h
                refine jr_iald (t0 := 0) C dMo_votesOf_37 mA_2 rfl h1 ?_
                refine jr_iload_n (q := 2) C dMo_votesOf_38 rfl rfl ?_
                refine jr_icmp_ne (tgt := 77) C dMo_votesOf_39 (by decide) (fun z => ?_) (fun z => ?_)
                · have h := h.1 z
                  refine jr_lv (lv' := [(0, .ref (ad 0)), (1, .int x1), (2, .int x2), (3, .int x3), (4, .int x4), (5, .int x5), (6, .int x6), (7, .int x7)]) [0, 1, 2, 3, 4, 5, 6, 7] rfl ?_
                  exact hk st x1 x2 x3 x4 x5 x6 x7 h
                · have h := h.2 z
                  refine jr_aload_n (q := 0) C dMo_votesOf_42 rfl rfl ?_
                  refine jr_iload (q := 6) C dMo_votesOf_43 rfl ?_
                  refine jr_iload (q := 7) C dMo_votesOf_45 rfl ?_
                  refine jr_callVi (As := [.int x6, .int x7]) (rest := []) C (c_Mo_cellOf h) (cwV 2 C.2.2.2.2.1 (tg_V tm3_220 tm3_222 tp_21 tm1_7 tm3_223) rfl rfl rfl ⟨rfl, by decide, by decide, by decide⟩ ⟨Nat.le_of_ble_eq_true rfl, Nat.le_of_ble_eq_true rfl⟩) dMo_votesOf_47 (rfl : kC[5]? = _) mA_0 rfl rfl (Nat.le_of_ble_eq_true rfl) ⟨Nat.le_of_ble_eq_true rfl, Nat.le_of_ble_eq_true rfl⟩ (fun r3 st2 h => ?_)
                  refine jr_aload_n (q := 0) C dMo_votesOf_50 rfl rfl ?_
                  refine jr_iload_n (q := 1) C dMo_votesOf_51 rfl rfl ?_
                  refine jr_iload (q := 7) C dMo_votesOf_52 rfl ?_
                  refine jr_callVi (As := [.int x1, .int x7]) (rest := [.int r3]) C (c_Mo_cellOf h) (cwV 2 C.2.2.2.2.1 (tg_V tm3_220 tm3_222 tp_21 tm1_7 tm3_223) rfl rfl rfl ⟨rfl, by decide, by decide, by decide⟩ ⟨Nat.le_of_ble_eq_true rfl, Nat.le_of_ble_eq_true rfl⟩) dMo_votesOf_54 (rfl : kC[5]? = _) mA_0 rfl rfl (Nat.le_of_ble_eq_true rfl) ⟨Nat.le_of_ble_eq_true rfl, Nat.le_of_ble_eq_true rfl⟩ (fun r5 st4 h => ?_)
                  refine jr_icmp_ne (tgt := 67) C dMo_votesOf_57 (by decide) (fun z => ?_) (fun z => ?_)
                  · have h := h.1 z
                    refine jr_iload (q := 5) C dMo_votesOf_67 rfl ?_
                    refine jr_istore (lv' := [(5, .int x5), (0, .ref (ad 0)), (1, .int x1), (2, .int x2), (3, .int x3), (4, .int x4), (6, .int x6), (7, .int x7)]) C dMo_votesOf_69 (by decide) rfl ?_
                    refine jr_iinc (q := 7) (v := (x7 + (1 : Int32))) (lv' := [(7, .int (x7 + (1 : Int32))), (5, .int x5), (0, .ref (ad 0)), (1, .int x1), (2, .int x2), (3, .int x3), (4, .int x4), (6, .int x6)]) C dMo_votesOf_71 rfl rfl (by decide) rfl ?_
                    refine jr_goto (tgt := 18) C dMo_votesOf_74 (by decide) ?_
                    refine jr_lv (lv' := [(0, .ref (ad 0)), (1, .int x1), (2, .int x2), (3, .int x3), (4, .int x4), (5, .int x5), (6, .int x6), (7, .int (x7 + (1 : Int32)))]) [2, 3, 4, 5, 6, 1, 7, 0] rfl ?_
                    exact ih st4 x1 x2 x3 x4 x5 x6 (x7 + (1 : Int32)) h
                  · have h := h.2 z
                    refine jr_iload (q := 5) C dMo_votesOf_60 rfl ?_
                    refine jr_iconst (v := 1) C dMo_votesOf_62 (by decide) ?_
                    refine jr_iadd C dMo_votesOf_63 ?_
                    refine jr_goto (tgt := 69) C dMo_votesOf_64 (by decide) ?_
                    refine jr_istore (lv' := [(5, .int (x5 + (1 : Int32))), (0, .ref (ad 0)), (1, .int x1), (2, .int x2), (3, .int x3), (4, .int x4), (6, .int x6), (7, .int x7)]) C dMo_votesOf_69 (by decide) rfl ?_
                    refine jr_iinc (q := 7) (v := (x7 + (1 : Int32))) (lv' := [(7, .int (x7 + (1 : Int32))), (5, .int (x5 + (1 : Int32))), (0, .ref (ad 0)), (1, .int x1), (2, .int x2), (3, .int x3), (4, .int x4), (6, .int x6)]) C dMo_votesOf_71 rfl rfl (by decide) rfl ?_
                    refine jr_goto (tgt := 18) C dMo_votesOf_74 (by decide) ?_
                    refine jr_lv (lv' := [(0, .ref (ad 0)), (1, .int x1), (2, .int x2), (3, .int x3), (4, .int x4), (5, .int (x5 + (1 : Int32))), (6, .int x6), (7, .int (x7 + (1 : Int32)))]) [2, 3, 4, 5, 6, 1, 7, 0] rfl ?_
                    exact ih st4 x1 x2 x3 x4 (x5 + (1 : Int32)) x6 (x7 + (1 : Int32)) h
        obtain ⟨n7, h⟩ := h
        refine jr_lv (lv' := [(0, .ref (ad 0)), (1, .int x1), (2, .int x2), (3, .int x3), (4, .int x4), (5, .int x5), (6, .int x6), (7, .int x3)]) [1, 2, 3, 4, 5, 6, 7, 0] rfl ?_
        refine lp6 _ (fun st8 y9 y10 y11 y12 y13 y14 y15 h => ?_) n7 st x1 x2 x3 x4 x5 x6 x3 h
        refine jr_iinc (q := 6) (v := (y14 + (1 : Int32))) (lv' := [(6, .int (y14 + (1 : Int32))), (0, .ref (ad 0)), (1, .int y9), (2, .int y10), (3, .int y11), (4, .int y12), (5, .int y13), (7, .int y15)]) C dMo_votesOf_77 rfl rfl (by decide) rfl ?_
        refine jr_goto (tgt := 6) C dMo_votesOf_80 (by decide) ?_
        refine jr_lv (lv' := [(0, .ref (ad 0)), (1, .int y9), (2, .int y10), (3, .int y11), (4, .int y12), (5, .int y13), (6, .int (y14 + (1 : Int32)))]) [1, 2, 3, 4, 5, 6, 0] rfl ?_
        exact ih st8 y9 y10 y11 y12 y13 (y14 + (1 : Int32)) h
  obtain ⟨n18, h⟩ := h
  refine jr_lv (lv' := [(0, .ref (ad 0)), (1, .int l1), (2, .int l2), (3, .int l3), (4, .int l4), (5, .int (0 : Int32)), (6, .int (0 : Int32))]) [2, 3, 4, 5, 6, 1, 0] rfl ?_
  exact lp17 n18 st l1 l2 l3 l4 (0 : Int32) (0 : Int32) h
end MO
