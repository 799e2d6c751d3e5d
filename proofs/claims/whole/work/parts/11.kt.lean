section KT
variable {l : Launch} {D : va_G} {cI cII cL cJ : ClassId} {ad sa : Nat → Nat} {K F : Nat} {fr : va_W}
def wp_KT_needKind (K F : Nat) (st : jS) (l1 : Int32) (post : jS → Prop) (xp : String → jS → Prop) : Prop :=
  ((l1 < 0 → xp "java/lang/IndexOutOfBoundsException" st) ∧ (¬ l1 < 0 → ((l1 < (st 0 0) → post st) ∧ (¬ l1 < (st 0 0) → xp "java/lang/IndexOutOfBoundsException" st))))
set_option maxRecDepth 100000 in
set_option maxHeartbeats 4000000 in
theorem c_KT_needKind (hl0 : l.stackTraces = false) {st : jS} {l1 : Int32} {post : jS → Prop} {xp : String → jS → Prop} (h : wp_KT_needKind K F st l1 post xp) : jr_Tv l yKT_needKind wKT_needKind ({ frames := 6, cells := 1, slots := 6, locals := 90 }) [.ref (ad 0), .int l1] D kC (kT cI cII cL cJ) (kW cI cII cL ad K F fr st) (kS sa) (kW cI cII cL ad K F fr) post xp 1 6 := by
  refine jr_ofXv (cc := bKT_needKind) (nL := 2) (lv := [(0, .ref (ad 0)), (1, .int l1)]) (by decide) rfl (Nat.le_of_ble_eq_true rfl) rfl (fun p e s m args below meth c A C hr hlocks hnt hZ hs9 => ?_)
  unfold wp_KT_needKind at h
  refine jr_iload_n (q := 1) C dKT_needKind_0 rfl rfl ?_
  refine jr_if_lt (tgt := 12) C dKT_needKind_1 (by decide) (fun z => ?_) (fun z => ?_)
  · have h := h.1 z
    exact jr_throwS C hl0 hZ hlocks hnt (ks_0 hs9) tf_186 tfn (C.2.2.2.2.1 _ (List.mem_cons_of_mem _ tm1_207)) (C.2.2.2.2.1 _ (List.mem_cons_of_mem _ tm1_11)) (th_186_190 C) (tx_186_190) dKT_needKind_12 dKT_needKind_15 dKT_needKind_16 dKT_needKind_18 dKT_needKind_21 (Nat.le_of_ble_eq_true rfl) (Nat.le_of_ble_eq_true rfl) (Nat.le_of_ble_eq_true rfl) (Nat.le_of_ble_eq_true rfl) (Nat.le_of_ble_eq_true rfl) (Nat.le_of_ble_eq_true rfl) h rfl
  · have h := h.2 z
    refine jr_iload_n (q := 1) C dKT_needKind_4 rfl rfl ?_
    refine jr_aload_n (q := 0) C dKT_needKind_5 rfl rfl ?_
    refine jr_getf (k := 0) C dKT_needKind_6 inw_KT (rfl : kC[0]? = _) (by decide) (List.mem_cons_of_mem _ tm1_132) rfl kA_0 rfl ?_
    refine jr_icmp_lt (tgt := 22) C dKT_needKind_9 (by decide) (fun z => ?_) (fun z => ?_)
    · have h := h.1 z
      exact jr_retXv C hr hlocks dKT_needKind_22 (Nat.le_of_ble_eq_true rfl) (Nat.le_of_ble_eq_true rfl) h rfl
    · have h := h.2 z
      exact jr_throwS C hl0 hZ hlocks hnt (ks_0 hs9) tf_186 tfn (C.2.2.2.2.1 _ (List.mem_cons_of_mem _ tm1_207)) (C.2.2.2.2.1 _ (List.mem_cons_of_mem _ tm1_11)) (th_186_190 C) (tx_186_190) dKT_needKind_12 dKT_needKind_15 dKT_needKind_16 dKT_needKind_18 dKT_needKind_21 (Nat.le_of_ble_eq_true rfl) (Nat.le_of_ble_eq_true rfl) (Nat.le_of_ble_eq_true rfl) (Nat.le_of_ble_eq_true rfl) (Nat.le_of_ble_eq_true rfl) (Nat.le_of_ble_eq_true rfl) h rfl
def wp_KT_needKindOrNone (K F : Nat) (st : jS) (l1 : Int32) (post : jS → Prop) (xp : String → jS → Prop) : Prop :=
  ((l1 = (-1 : Int32) → post st) ∧ (¬ l1 = (-1 : Int32) → wp_KT_needKind K F st l1 (fun st1 => post st1) xp))
set_option maxRecDepth 100000 in
set_option maxHeartbeats 4000000 in
theorem c_KT_needKindOrNone (hl0 : l.stackTraces = false) {st : jS} {l1 : Int32} {post : jS → Prop} {xp : String → jS → Prop} (h : wp_KT_needKindOrNone K F st l1 post xp) : jr_Tv l yKT_needKindOrNone wKT_needKindOrNone ({ frames := 7, cells := 1, slots := 6, locals := 111 }) [.ref (ad 0), .int l1] D kC (kT cI cII cL cJ) (kW cI cII cL ad K F fr st) (kS sa) (kW cI cII cL ad K F fr) post xp 1 6 := by
  refine jr_ofXv (cc := bKT_needKindOrNone) (nL := 2) (lv := [(0, .ref (ad 0)), (1, .int l1)]) (by decide) rfl (Nat.le_of_ble_eq_true rfl) rfl (fun p e s m args below meth c A C hr hlocks hnt hZ hs9 => ?_)
  unfold wp_KT_needKindOrNone at h
  refine jr_iload_n (q := 1) C dKT_needKindOrNone_0 rfl rfl ?_
  refine jr_iconst (v := -1) C dKT_needKindOrNone_1 (by decide) ?_
  refine jr_icmp_eq (tgt := 10) C dKT_needKindOrNone_2 (by decide) (fun z => ?_) (fun z => ?_)
  · have h := h.1 z
    exact jr_retXv C hr hlocks dKT_needKindOrNone_10 (Nat.le_of_ble_eq_true rfl) (Nat.le_of_ble_eq_true rfl) h rfl
  · have h := h.2 z
    refine jr_aload_n (q := 0) C dKT_needKindOrNone_5 rfl rfl ?_
    refine jr_iload_n (q := 1) C dKT_needKindOrNone_6 rfl rfl ?_
    refine jr_callXVvv (As := [.int l1]) (rest := []) C hlocks hnt hZ hs9 (c_KT_needKind hl0 h) (cwV 1 C.2.2.2.2.1 (tg_V tm1_203 tm1_205 tp_3 tm1_1 tm1_206) rfl rfl rfl ⟨rfl, by decide, by decide, by decide⟩ ⟨Nat.le_of_ble_eq_true rfl, Nat.le_of_ble_eq_true rfl⟩) dKT_needKindOrNone_7 (rfl : kC[0]? = _) kA_0 rfl rfl (Nat.le_of_ble_eq_true rfl) ⟨Nat.le_of_ble_eq_true rfl, Nat.le_of_ble_eq_true rfl⟩ (Nat.le_of_ble_eq_true rfl) (Nat.le_of_ble_eq_true rfl) (fun _ _ h => h) (fun st1 h => ?_)
    exact jr_retXv C hr hlocks dKT_needKindOrNone_10 (Nat.le_of_ble_eq_true rfl) (Nat.le_of_ble_eq_true rfl) h rfl
def wp_KT_example (K F : Nat) (st : jS) (l1 : Int32) (post : Int32 → jS → Prop) (xp : String → jS → Prop) : Prop :=
  wp_KT_needKindOrNone K F st l1 (fun st1 => (((st1 1 5) < (24 : Int32) → wp_Ex_add K F st1 l1 (fun r4 st3 => post r4 st3)) ∧ (¬ (st1 1 5) < (24 : Int32) → xp "java/lang/IllegalStateException" st1))) xp
set_option maxRecDepth 100000 in
set_option maxHeartbeats 4000000 in
theorem c_KT_example (hl0 : l.stackTraces = false) {st : jS} {l1 : Int32} {post : Int32 → jS → Prop} {xp : String → jS → Prop} (h : wp_KT_example K F st l1 post xp) : jr_Ti l yKT_example wKT_example ({ frames := 8, cells := 2, slots := 12, locals := 132 }) [.ref (ad 0), .int l1] D kC (kT cI cII cL cJ) (kW cI cII cL ad K F fr st) (kS sa) (kW cI cII cL ad K F fr) post xp 2 12 := by
  refine jr_ofXi (cc := bKT_example) (nL := 2) (lv := [(0, .ref (ad 0)), (1, .int l1)]) (by decide) rfl (Nat.le_of_ble_eq_true rfl) rfl (fun p e s m args below meth c A C hr hlocks hnt hZ hs9 => ?_)
  unfold wp_KT_example at h
  refine jr_aload_n (q := 0) C dKT_example_0 rfl rfl ?_
  refine jr_iload_n (q := 1) C dKT_example_1 rfl rfl ?_
  refine jr_callXVvi (As := [.int l1]) (rest := []) C hlocks hnt hZ hs9 (c_KT_needKindOrNone hl0 h) (cwV 1 C.2.2.2.2.1 (tg_V tm1_199 tm1_201 tp_2 tm1_1 tm1_202) rfl rfl rfl ⟨rfl, by decide, by decide, by decide⟩ ⟨Nat.le_of_ble_eq_true rfl, Nat.le_of_ble_eq_true rfl⟩) dKT_example_2 (rfl : kC[0]? = _) kA_0 rfl rfl (Nat.le_of_ble_eq_true rfl) ⟨Nat.le_of_ble_eq_true rfl, Nat.le_of_ble_eq_true rfl⟩ (Nat.le_of_ble_eq_true rfl) (Nat.le_of_ble_eq_true rfl) (fun _ _ h => h) (fun st1 h => ?_)
  refine jr_aload_n (q := 0) C dKT_example_5 rfl rfl ?_
  refine jr_getf (k := 2) C dKT_example_6 inw_KT (rfl : kC[0]? = _) (by decide) (List.mem_cons_of_mem _ tm1_134) rfl kA_0 rfl ?_
  refine jr_getf (k := 5) C dKT_example_9 inw_Ex (rfl : kC[1]? = _) (by decide) (List.mem_cons_of_mem _ tm1_47) rfl kA_1 rfl ?_
  refine jr_bipush (v := 24) C dKT_example_12 (by decide) ?_
  refine jr_icmp_lt (tgt := 27) C dKT_example_14 (by decide) (fun z => ?_) (fun z => ?_)
  · have h := h.1 z
    refine jr_aload_n (q := 0) C dKT_example_27 rfl rfl ?_
    refine jr_getf (k := 2) C dKT_example_28 inw_KT (rfl : kC[0]? = _) (by decide) (List.mem_cons_of_mem _ tm1_134) rfl kA_0 rfl ?_
    refine jr_iload_n (q := 1) C dKT_example_31 rfl rfl ?_
    refine jr_callVi (As := [.int l1]) (rest := []) C (c_Ex_add h) (cwV 1 C.2.2.2.2.1 (tg_V tm2_51 tm2_52 tm2_53 tm1_3 tm2_54) rfl rfl rfl ⟨rfl, by decide, by decide, by decide⟩ ⟨Nat.le_of_ble_eq_true rfl, Nat.le_of_ble_eq_true rfl⟩) dKT_example_32 (rfl : kC[1]? = _) kA_1 rfl rfl (Nat.le_of_ble_eq_true rfl) ⟨Nat.le_of_ble_eq_true rfl, Nat.le_of_ble_eq_true rfl⟩ (fun r4 st3 h => ?_)
    exact jr_retXi C hr hlocks dKT_example_35 (Nat.le_of_ble_eq_true rfl) (Nat.le_of_ble_eq_true rfl) h rfl
  · have h := h.2 z
    exact jr_throwS C hl0 hZ hlocks hnt (ks_1 hs9) tf_63 tfn (C.2.2.2.2.1 _ (List.mem_cons_of_mem _ tm2_35)) (C.2.2.2.2.1 _ (List.mem_cons_of_mem _ tm1_12)) (th_63_67 C) (tx_63_67) dKT_example_17 dKT_example_20 dKT_example_21 dKT_example_23 dKT_example_26 (Nat.le_of_ble_eq_true rfl) (Nat.le_of_ble_eq_true rfl) (Nat.le_of_ble_eq_true rfl) (Nat.le_of_ble_eq_true rfl) (Nat.le_of_ble_eq_true rfl) (Nat.le_of_ble_eq_true rfl) h rfl
def wp_KT_needExample (K F : Nat) (st : jS) (l1 : Int32) (post : jS → Prop) (xp : String → jS → Prop) : Prop :=
  ((l1 < 0 → xp "java/lang/IndexOutOfBoundsException" st) ∧ (¬ l1 < 0 → ((l1 < (st 1 5) → post st) ∧ (¬ l1 < (st 1 5) → xp "java/lang/IndexOutOfBoundsException" st))))
set_option maxRecDepth 100000 in
set_option maxHeartbeats 4000000 in
theorem c_KT_needExample (hl0 : l.stackTraces = false) {st : jS} {l1 : Int32} {post : jS → Prop} {xp : String → jS → Prop} (h : wp_KT_needExample K F st l1 post xp) : jr_Tv l yKT_needExample wKT_needExample ({ frames := 6, cells := 1, slots := 6, locals := 90 }) [.ref (ad 0), .int l1] D kC (kT cI cII cL cJ) (kW cI cII cL ad K F fr st) (kS sa) (kW cI cII cL ad K F fr) post xp 1 6 := by
  refine jr_ofXv (cc := bKT_needExample) (nL := 2) (lv := [(0, .ref (ad 0)), (1, .int l1)]) (by decide) rfl (Nat.le_of_ble_eq_true rfl) rfl (fun p e s m args below meth c A C hr hlocks hnt hZ hs9 => ?_)
  unfold wp_KT_needExample at h
  refine jr_iload_n (q := 1) C dKT_needExample_0 rfl rfl ?_
  refine jr_if_lt (tgt := 15) C dKT_needExample_1 (by decide) (fun z => ?_) (fun z => ?_)
  · have h := h.1 z
    exact jr_throwS C hl0 hZ hlocks hnt (ks_2 hs9) tf_186 tfn (C.2.2.2.2.1 _ (List.mem_cons_of_mem _ tm1_207)) (C.2.2.2.2.1 _ (List.mem_cons_of_mem _ tm1_11)) (th_186_190 C) (tx_186_190) dKT_needExample_15 dKT_needExample_18 dKT_needExample_19 dKT_needExample_21 dKT_needExample_24 (Nat.le_of_ble_eq_true rfl) (Nat.le_of_ble_eq_true rfl) (Nat.le_of_ble_eq_true rfl) (Nat.le_of_ble_eq_true rfl) (Nat.le_of_ble_eq_true rfl) (Nat.le_of_ble_eq_true rfl) h rfl
  · have h := h.2 z
    refine jr_iload_n (q := 1) C dKT_needExample_4 rfl rfl ?_
    refine jr_aload_n (q := 0) C dKT_needExample_5 rfl rfl ?_
    refine jr_getf (k := 2) C dKT_needExample_6 inw_KT (rfl : kC[0]? = _) (by decide) (List.mem_cons_of_mem _ tm1_134) rfl kA_0 rfl ?_
    refine jr_getf (k := 5) C dKT_needExample_9 inw_Ex (rfl : kC[1]? = _) (by decide) (List.mem_cons_of_mem _ tm1_47) rfl kA_1 rfl ?_
    refine jr_icmp_lt (tgt := 25) C dKT_needExample_12 (by decide) (fun z => ?_) (fun z => ?_)
    · have h := h.1 z
      exact jr_retXv C hr hlocks dKT_needExample_25 (Nat.le_of_ble_eq_true rfl) (Nat.le_of_ble_eq_true rfl) h rfl
    · have h := h.2 z
      exact jr_throwS C hl0 hZ hlocks hnt (ks_2 hs9) tf_186 tfn (C.2.2.2.2.1 _ (List.mem_cons_of_mem _ tm1_207)) (C.2.2.2.2.1 _ (List.mem_cons_of_mem _ tm1_11)) (th_186_190 C) (tx_186_190) dKT_needExample_15 dKT_needExample_18 dKT_needExample_19 dKT_needExample_21 dKT_needExample_24 (Nat.le_of_ble_eq_true rfl) (Nat.le_of_ble_eq_true rfl) (Nat.le_of_ble_eq_true rfl) (Nat.le_of_ble_eq_true rfl) (Nat.le_of_ble_eq_true rfl) (Nat.le_of_ble_eq_true rfl) h rfl
def wp_KT_needFeature (K F : Nat) (st : jS) (l1 : Int32) (post : jS → Prop) (xp : String → jS → Prop) : Prop :=
  ((l1 < 0 → xp "java/lang/IndexOutOfBoundsException" st) ∧ (¬ l1 < 0 → ((l1 < (st 0 1) → post st) ∧ (¬ l1 < (st 0 1) → xp "java/lang/IndexOutOfBoundsException" st))))
set_option maxRecDepth 100000 in
set_option maxHeartbeats 4000000 in
theorem c_KT_needFeature (hl0 : l.stackTraces = false) {st : jS} {l1 : Int32} {post : jS → Prop} {xp : String → jS → Prop} (h : wp_KT_needFeature K F st l1 post xp) : jr_Tv l yKT_needFeature wKT_needFeature ({ frames := 6, cells := 1, slots := 6, locals := 90 }) [.ref (ad 0), .int l1] D kC (kT cI cII cL cJ) (kW cI cII cL ad K F fr st) (kS sa) (kW cI cII cL ad K F fr) post xp 1 6 := by
  refine jr_ofXv (cc := bKT_needFeature) (nL := 2) (lv := [(0, .ref (ad 0)), (1, .int l1)]) (by decide) rfl (Nat.le_of_ble_eq_true rfl) rfl (fun p e s m args below meth c A C hr hlocks hnt hZ hs9 => ?_)
  unfold wp_KT_needFeature at h
  refine jr_iload_n (q := 1) C dKT_needFeature_0 rfl rfl ?_
  refine jr_if_lt (tgt := 12) C dKT_needFeature_1 (by decide) (fun z => ?_) (fun z => ?_)
  · have h := h.1 z
    exact jr_throwS C hl0 hZ hlocks hnt (ks_3 hs9) tf_186 tfn (C.2.2.2.2.1 _ (List.mem_cons_of_mem _ tm1_207)) (C.2.2.2.2.1 _ (List.mem_cons_of_mem _ tm1_11)) (th_186_190 C) (tx_186_190) dKT_needFeature_12 dKT_needFeature_15 dKT_needFeature_16 dKT_needFeature_18 dKT_needFeature_21 (Nat.le_of_ble_eq_true rfl) (Nat.le_of_ble_eq_true rfl) (Nat.le_of_ble_eq_true rfl) (Nat.le_of_ble_eq_true rfl) (Nat.le_of_ble_eq_true rfl) (Nat.le_of_ble_eq_true rfl) h rfl
  · have h := h.2 z
    refine jr_iload_n (q := 1) C dKT_needFeature_4 rfl rfl ?_
    refine jr_aload_n (q := 0) C dKT_needFeature_5 rfl rfl ?_
    refine jr_getf (k := 1) C dKT_needFeature_6 inw_KT (rfl : kC[0]? = _) (by decide) (List.mem_cons_of_mem _ tm1_133) rfl kA_0 rfl ?_
    refine jr_icmp_lt (tgt := 22) C dKT_needFeature_9 (by decide) (fun z => ?_) (fun z => ?_)
    · have h := h.1 z
      exact jr_retXv C hr hlocks dKT_needFeature_22 (Nat.le_of_ble_eq_true rfl) (Nat.le_of_ble_eq_true rfl) h rfl
    · have h := h.2 z
      exact jr_throwS C hl0 hZ hlocks hnt (ks_3 hs9) tf_186 tfn (C.2.2.2.2.1 _ (List.mem_cons_of_mem _ tm1_207)) (C.2.2.2.2.1 _ (List.mem_cons_of_mem _ tm1_11)) (th_186_190 C) (tx_186_190) dKT_needFeature_12 dKT_needFeature_15 dKT_needFeature_16 dKT_needFeature_18 dKT_needFeature_21 (Nat.le_of_ble_eq_true rfl) (Nat.le_of_ble_eq_true rfl) (Nat.le_of_ble_eq_true rfl) (Nat.le_of_ble_eq_true rfl) (Nat.le_of_ble_eq_true rfl) (Nat.le_of_ble_eq_true rfl) h rfl
def wp_KT_needWithin (K F : Nat) (st : jS) (l0 : Int32) (l1 : Int32) (l2 : Int32) (post : jS → Prop) (xp : String → jS → Prop) : Prop :=
  ((l0 < l1 → xp "java/lang/IllegalArgumentException" st) ∧ (¬ l0 < l1 → ((l0 ≤ l2 → post st) ∧ (¬ l0 ≤ l2 → xp "java/lang/IllegalArgumentException" st))))
set_option maxRecDepth 100000 in
set_option maxHeartbeats 4000000 in
theorem c_KT_needWithin (hl0 : l.stackTraces = false) {st : jS} {l0 : Int32} {l1 : Int32} {l2 : Int32} {post : jS → Prop} {xp : String → jS → Prop} (h : wp_KT_needWithin K F st l0 l1 l2 post xp) : jr_Tv l yKT_needWithin wKT_needWithin ({ frames := 6, cells := 1, slots := 6, locals := 90 }) [.int l0, .int l1, .int l2] D kC (kT cI cII cL cJ) (kW cI cII cL ad K F fr st) (kS sa) (kW cI cII cL ad K F fr) post xp 1 6 := by
  refine jr_ofXv (cc := bKT_needWithin) (nL := 3) (lv := [(0, .int l0), (1, .int l1), (2, .int l2)]) (by decide) rfl (Nat.le_of_ble_eq_true rfl) rfl (fun p e s m args below meth c A C hr hlocks hnt hZ hs9 => ?_)
  unfold wp_KT_needWithin at h
  refine jr_iload_n (q := 0) C dKT_needWithin_0 rfl rfl ?_
  refine jr_iload_n (q := 1) C dKT_needWithin_1 rfl rfl ?_
  refine jr_icmp_lt (tgt := 10) C dKT_needWithin_2 (by decide) (fun z => ?_) (fun z => ?_)
  · have h := h.1 z
    exact jr_throwS C hl0 hZ hlocks hnt (ks_4 hs9) tf_139 tfn (C.2.2.2.2.1 _ (List.mem_cons_of_mem _ tm2_76)) (C.2.2.2.2.1 _ (List.mem_cons_of_mem _ tm1_13)) (th_139_143 C) (tx_139_143) dKT_needWithin_10 dKT_needWithin_13 dKT_needWithin_14 dKT_needWithin_16 dKT_needWithin_19 (Nat.le_of_ble_eq_true rfl) (Nat.le_of_ble_eq_true rfl) (Nat.le_of_ble_eq_true rfl) (Nat.le_of_ble_eq_true rfl) (Nat.le_of_ble_eq_true rfl) (Nat.le_of_ble_eq_true rfl) h rfl
  · have h := h.2 z
    refine jr_iload_n (q := 0) C dKT_needWithin_5 rfl rfl ?_
    refine jr_iload_n (q := 2) C dKT_needWithin_6 rfl rfl ?_
    refine jr_icmp_le (tgt := 20) C dKT_needWithin_7 (by decide) (fun z => ?_) (fun z => ?_)
    · have h := h.1 z
      exact jr_retXv C hr hlocks dKT_needWithin_20 (Nat.le_of_ble_eq_true rfl) (Nat.le_of_ble_eq_true rfl) h rfl
    · have h := h.2 z
      exact jr_throwS C hl0 hZ hlocks hnt (ks_4 hs9) tf_139 tfn (C.2.2.2.2.1 _ (List.mem_cons_of_mem _ tm2_76)) (C.2.2.2.2.1 _ (List.mem_cons_of_mem _ tm1_13)) (th_139_143 C) (tx_139_143) dKT_needWithin_10 dKT_needWithin_13 dKT_needWithin_14 dKT_needWithin_16 dKT_needWithin_19 (Nat.le_of_ble_eq_true rfl) (Nat.le_of_ble_eq_true rfl) (Nat.le_of_ble_eq_true rfl) (Nat.le_of_ble_eq_true rfl) (Nat.le_of_ble_eq_true rfl) (Nat.le_of_ble_eq_true rfl) h rfl
def wp_KT_value (K F : Nat) (st : jS) (l1 : Int32) (l2 : Int32) (l3 : Int32) (post : Int32 → jS → Prop) (xp : String → jS → Prop) : Prop :=
  wp_KT_needExample K F st l1 (fun st1 => wp_KT_needFeature K F st1 l2 (fun st3 => wp_KT_needWithin K F st3 l3 (0 : Int32) (2000 : Int32) (fun st5 => vp_in l1 24 ∧ vp_in l2 F ∧ vp_in l1 24 ∧ vp_in l2 F ∧ (((st5 (15 + (Int32.toNatClampNeg l1)) (Int32.toNatClampNeg l2)) = l3 → post (0 : Int32) (jq st5 (15 + (Int32.toNatClampNeg l1)) (Int32.toNatClampNeg l2) l3)) ∧ (¬ (st5 (15 + (Int32.toNatClampNeg l1)) (Int32.toNatClampNeg l2)) = l3 → post (1 : Int32) (jq st5 (15 + (Int32.toNatClampNeg l1)) (Int32.toNatClampNeg l2) l3)))) xp) xp) xp
set_option maxRecDepth 100000 in
set_option maxHeartbeats 4000000 in
theorem c_KT_value (hl0 : l.stackTraces = false) {st : jS} {l1 : Int32} {l2 : Int32} {l3 : Int32} {post : Int32 → jS → Prop} {xp : String → jS → Prop} (h : wp_KT_value K F st l1 l2 l3 post xp) : jr_Ti l yKT_value wKT_value ({ frames := 7, cells := 3, slots := 18, locals := 112 }) [.ref (ad 0), .int l1, .int l2, .int l3] D kC (kT cI cII cL cJ) (kW cI cII cL ad K F fr st) (kS sa) (kW cI cII cL ad K F fr) post xp 3 18 := by
  refine jr_ofXz (cc := bKT_value) (nL := 5) (lv := [(0, .ref (ad 0)), (1, .int l1), (2, .int l2), (3, .int l3)]) (by decide) rfl (Nat.le_of_ble_eq_true rfl) rfl (fun p e s m args below meth c A C hr hlocks hnt hZ hs9 => ?_)
  unfold wp_KT_value at h
  refine jr_aload_n (q := 0) C dKT_value_0 rfl rfl ?_
  refine jr_iload_n (q := 1) C dKT_value_1 rfl rfl ?_
  refine jr_callXVvi (As := [.int l1]) (rest := []) C hlocks hnt hZ hs9 (c_KT_needExample hl0 h) (cwV 1 C.2.2.2.2.1 (tg_V tm2_63 tm2_65 tp_5 tm1_1 tm2_66) rfl rfl rfl ⟨rfl, by decide, by decide, by decide⟩ ⟨Nat.le_of_ble_eq_true rfl, Nat.le_of_ble_eq_true rfl⟩) dKT_value_2 (rfl : kC[0]? = _) kA_0 rfl rfl (Nat.le_of_ble_eq_true rfl) ⟨Nat.le_of_ble_eq_true rfl, Nat.le_of_ble_eq_true rfl⟩ (Nat.le_of_ble_eq_true rfl) (Nat.le_of_ble_eq_true rfl) (fun _ _ h => h) (fun st1 h => ?_)
  refine jr_aload_n (q := 0) C dKT_value_5 rfl rfl ?_
  refine jr_iload_n (q := 2) C dKT_value_6 rfl rfl ?_
  refine jr_callXVvi (As := [.int l2]) (rest := []) C hlocks hnt hZ hs9 (c_KT_needFeature hl0 h) (cwV 1 C.2.2.2.2.1 (tg_V tm2_68 tm2_70 tp_6 tm1_1 tm2_71) rfl rfl rfl ⟨rfl, by decide, by decide, by decide⟩ ⟨Nat.le_of_ble_eq_true rfl, Nat.le_of_ble_eq_true rfl⟩) dKT_value_7 (rfl : kC[0]? = _) kA_0 rfl rfl (Nat.le_of_ble_eq_true rfl) ⟨Nat.le_of_ble_eq_true rfl, Nat.le_of_ble_eq_true rfl⟩ (Nat.le_of_ble_eq_true rfl) (Nat.le_of_ble_eq_true rfl) (fun _ _ h => h) (fun st3 h => ?_)
  refine jr_iload_n (q := 3) C dKT_value_10 rfl rfl ?_
  refine jr_iconst (v := 0) C dKT_value_11 (by decide) ?_
  refine jr_sipush (v := 2000) C dKT_value_12 (by decide) ?_
  refine jr_callXSvi (As := [.int l3, .int (0 : Int32), .int (2000 : Int32)]) (rest := []) C hlocks hnt hZ hs9 (c_KT_needWithin hl0 h) (va_cwS 3 C.2.2.2.2.1 (tg_S tm2_73 tm2_74 tm1_1 tm2_75) rfl rfl rfl ⟨by decide, by decide, by decide⟩ ⟨Nat.le_of_ble_eq_true rfl, Nat.le_of_ble_eq_true rfl⟩) dKT_value_15 rfl rfl (Nat.le_of_ble_eq_true rfl) ⟨Nat.le_of_ble_eq_true rfl, Nat.le_of_ble_eq_true rfl⟩ (Nat.le_of_ble_eq_true rfl) (Nat.le_of_ble_eq_true rfl) (fun _ _ h => h) (fun st5 h => ?_)
  refine jr_aload_n (q := 0) C dKT_value_18 rfl rfl ?_
  refine jr_getf (k := 2) C dKT_value_19 inw_KT (rfl : kC[0]? = _) (by decide) (List.mem_cons_of_mem _ tm1_134) rfl kA_0 rfl ?_
  refine jr_getf (k := 1) C dKT_value_22 inw_Ex (rfl : kC[1]? = _) (by decide) (List.mem_cons_of_mem _ tm1_39) rfl kA_1 rfl ?_
  refine jr_iload_n (q := 1) C dKT_value_25 rfl rfl ?_
  obtain ⟨h7, h⟩ := h
  refine jr_alda (t0 := 1) C dKT_value_26 kA_5 rfl h7 (kE_num h7) ?_
  refine jr_iload_n (q := 2) C dKT_value_27 rfl rfl ?_
  obtain ⟨h8, h⟩ := h
  refine jr_iald (t0 := 0) C dKT_value_28 (kA_rownum h7) rfl h8 ?_
  refine jr_istore (lv' := [(4, .int (st5 (15 + (Int32.toNatClampNeg l1)) (Int32.toNatClampNeg l2))), (0, .ref (ad 0)), (1, .int l1), (2, .int l2), (3, .int l3)]) C dKT_value_29 (by decide) rfl ?_
  refine jr_aload_n (q := 1) C dKT_value_31 rfl rfl ?_
  refine jr_getf (k := 2) C dKT_value_32 inw_KT (rfl : kC[0]? = _) (by decide) (List.mem_cons_of_mem _ tm1_134) rfl kA_0 rfl ?_
  refine jr_getf (k := 1) C dKT_value_35 inw_Ex (rfl : kC[1]? = _) (by decide) (List.mem_cons_of_mem _ tm1_39) rfl kA_1 rfl ?_
  refine jr_iload_n (q := 2) C dKT_value_38 rfl rfl ?_
  obtain ⟨h9, h⟩ := h
  refine jr_alda (t0 := 1) C dKT_value_39 kA_5 rfl h9 (kE_num h9) ?_
  refine jr_iload_n (q := 3) C dKT_value_40 rfl rfl ?_
  refine jr_iload_n (q := 4) C dKT_value_41 rfl rfl ?_
  obtain ⟨h10, h⟩ := h
  refine jr_iast (t0 := 0) C dKT_value_42 (kA_rownum h9) rfl h10 ?_
  refine jr_ws (ws' := kW cI cII cL ad K F fr (jq st5 (15 + (Int32.toNatClampNeg l1)) (Int32.toNatClampNeg l2) l3)) (kP_rownum h9) ?_
  refine jr_iload (q := 0) C dKT_value_43 rfl ?_
  refine jr_iload_n (q := 4) C dKT_value_45 rfl rfl ?_
  refine jr_icmp_eq (tgt := 53) C dKT_value_46 (by decide) (fun z => ?_) (fun z => ?_)
  · have h := h.1 z
    refine jr_iconst (v := 0) C dKT_value_53 (by decide) ?_
    exact jr_retXz C hr rfl hlocks dKT_value_54 (Nat.le_of_ble_eq_true rfl) (Nat.le_of_ble_eq_true rfl) h rfl
  · have h := h.2 z
    refine jr_iconst (v := 1) C dKT_value_49 (by decide) ?_
    refine jr_goto (tgt := 54) C dKT_value_50 (by decide) ?_
    exact jr_retXz C hr rfl hlocks dKT_value_54 (Nat.le_of_ble_eq_true rfl) (Nat.le_of_ble_eq_true rfl) h rfl
def wp_KT_teach (K F : Nat) (st : jS) (l1 : Int32) (l2 : Int32) (post : Int32 → jS → Prop) (xp : String → jS → Prop) : Prop :=
  wp_KT_needExample K F st l1 (fun st1 => wp_KT_needKindOrNone K F st1 l2 (fun st3 => vp_in l1 24 ∧ vp_in l1 24 ∧ post (st3 6 (Int32.toNatClampNeg l1)) (jq st3 6 (Int32.toNatClampNeg l1) l2)) xp) xp
set_option maxRecDepth 100000 in
set_option maxHeartbeats 4000000 in
theorem c_KT_teach (hl0 : l.stackTraces = false) {st : jS} {l1 : Int32} {l2 : Int32} {post : Int32 → jS → Prop} {xp : String → jS → Prop} (h : wp_KT_teach K F st l1 l2 post xp) : jr_Ti l yKT_teach wKT_teach ({ frames := 8, cells := 2, slots := 12, locals := 132 }) [.ref (ad 0), .int l1, .int l2] D kC (kT cI cII cL cJ) (kW cI cII cL ad K F fr st) (kS sa) (kW cI cII cL ad K F fr) post xp 2 12 := by
  refine jr_ofXi (cc := bKT_teach) (nL := 4) (lv := [(0, .ref (ad 0)), (1, .int l1), (2, .int l2)]) (by decide) rfl (Nat.le_of_ble_eq_true rfl) rfl (fun p e s m args below meth c A C hr hlocks hnt hZ hs9 => ?_)
  unfold wp_KT_teach at h
  refine jr_aload_n (q := 0) C dKT_teach_0 rfl rfl ?_
  refine jr_iload_n (q := 1) C dKT_teach_1 rfl rfl ?_
  refine jr_callXVvi (As := [.int l1]) (rest := []) C hlocks hnt hZ hs9 (c_KT_needExample hl0 h) (cwV 1 C.2.2.2.2.1 (tg_V tm2_63 tm2_65 tp_5 tm1_1 tm2_66) rfl rfl rfl ⟨rfl, by decide, by decide, by decide⟩ ⟨Nat.le_of_ble_eq_true rfl, Nat.le_of_ble_eq_true rfl⟩) dKT_teach_2 (rfl : kC[0]? = _) kA_0 rfl rfl (Nat.le_of_ble_eq_true rfl) ⟨Nat.le_of_ble_eq_true rfl, Nat.le_of_ble_eq_true rfl⟩ (Nat.le_of_ble_eq_true rfl) (Nat.le_of_ble_eq_true rfl) (fun _ _ h => h) (fun st1 h => ?_)
  refine jr_aload_n (q := 0) C dKT_teach_5 rfl rfl ?_
  refine jr_iload_n (q := 2) C dKT_teach_6 rfl rfl ?_
  refine jr_callXVvi (As := [.int l2]) (rest := []) C hlocks hnt hZ hs9 (c_KT_needKindOrNone hl0 h) (cwV 1 C.2.2.2.2.1 (tg_V tm1_199 tm1_201 tp_2 tm1_1 tm1_202) rfl rfl rfl ⟨rfl, by decide, by decide, by decide⟩ ⟨Nat.le_of_ble_eq_true rfl, Nat.le_of_ble_eq_true rfl⟩) dKT_teach_7 (rfl : kC[0]? = _) kA_0 rfl rfl (Nat.le_of_ble_eq_true rfl) ⟨Nat.le_of_ble_eq_true rfl, Nat.le_of_ble_eq_true rfl⟩ (Nat.le_of_ble_eq_true rfl) (Nat.le_of_ble_eq_true rfl) (fun _ _ h => h) (fun st3 h => ?_)
  refine jr_aload_n (q := 0) C dKT_teach_10 rfl rfl ?_
  refine jr_getf (k := 2) C dKT_teach_11 inw_KT (rfl : kC[0]? = _) (by decide) (List.mem_cons_of_mem _ tm1_134) rfl kA_0 rfl ?_
  refine jr_getf (k := 2) C dKT_teach_14 inw_Ex (rfl : kC[1]? = _) (by decide) (List.mem_cons_of_mem _ tm1_41) rfl kA_1 rfl ?_
  refine jr_iload_n (q := 1) C dKT_teach_17 rfl rfl ?_
  obtain ⟨h5, h⟩ := h
  refine jr_iald (t0 := 0) C dKT_teach_18 kA_6 rfl h5 ?_
  refine jr_istore_n (lv' := [(3, .int (st3 6 (Int32.toNatClampNeg l1))), (0, .ref (ad 0)), (1, .int l1), (2, .int l2)]) C dKT_teach_19 rfl (by decide) rfl ?_
  refine jr_aload_n (q := 1) C dKT_teach_20 rfl rfl ?_
  refine jr_getf (k := 2) C dKT_teach_21 inw_KT (rfl : kC[0]? = _) (by decide) (List.mem_cons_of_mem _ tm1_134) rfl kA_0 rfl ?_
  refine jr_getf (k := 2) C dKT_teach_24 inw_Ex (rfl : kC[1]? = _) (by decide) (List.mem_cons_of_mem _ tm1_41) rfl kA_1 rfl ?_
  refine jr_iload_n (q := 2) C dKT_teach_27 rfl rfl ?_
  refine jr_iload_n (q := 3) C dKT_teach_28 rfl rfl ?_
  obtain ⟨h6, h⟩ := h
  refine jr_iast (t0 := 0) C dKT_teach_29 kA_6 rfl h6 ?_
  refine jr_ws (ws' := kW cI cII cL ad K F fr (jq st3 6 (Int32.toNatClampNeg l1) l2)) (kP_6) ?_
  refine jr_iload_n (q := 0) C dKT_teach_30 rfl rfl ?_
  exact jr_retXi C hr hlocks dKT_teach_31 (Nat.le_of_ble_eq_true rfl) (Nat.le_of_ble_eq_true rfl) h rfl
def wp_KT_width (K F : Nat) (st : jS) (l1 : Int32) (l2 : Int32) (post : Int32 → jS → Prop) (xp : String → jS → Prop) : Prop :=
  wp_KT_needFeature K F st l1 (fun st1 => wp_KT_needWithin K F st1 l2 (1 : Int32) (1000 : Int32) (fun st3 => vp_in l1 F ∧ vp_in l1 F ∧ post (st3 7 (Int32.toNatClampNeg l1)) (jq st3 7 (Int32.toNatClampNeg l1) l2)) xp) xp
set_option maxRecDepth 100000 in
set_option maxHeartbeats 4000000 in
theorem c_KT_width (hl0 : l.stackTraces = false) {st : jS} {l1 : Int32} {l2 : Int32} {post : Int32 → jS → Prop} {xp : String → jS → Prop} (h : wp_KT_width K F st l1 l2 post xp) : jr_Ti l yKT_width wKT_width ({ frames := 7, cells := 2, slots := 12, locals := 112 }) [.ref (ad 0), .int l1, .int l2] D kC (kT cI cII cL cJ) (kW cI cII cL ad K F fr st) (kS sa) (kW cI cII cL ad K F fr) post xp 2 12 := by
  refine jr_ofXi (cc := bKT_width) (nL := 4) (lv := [(0, .ref (ad 0)), (1, .int l1), (2, .int l2)]) (by decide) rfl (Nat.le_of_ble_eq_true rfl) rfl (fun p e s m args below meth c A C hr hlocks hnt hZ hs9 => ?_)
  unfold wp_KT_width at h
  refine jr_aload_n (q := 0) C dKT_width_0 rfl rfl ?_
  refine jr_iload_n (q := 1) C dKT_width_1 rfl rfl ?_
  refine jr_callXVvi (As := [.int l1]) (rest := []) C hlocks hnt hZ hs9 (c_KT_needFeature hl0 h) (cwV 1 C.2.2.2.2.1 (tg_V tm2_68 tm2_70 tp_6 tm1_1 tm2_71) rfl rfl rfl ⟨rfl, by decide, by decide, by decide⟩ ⟨Nat.le_of_ble_eq_true rfl, Nat.le_of_ble_eq_true rfl⟩) dKT_width_2 (rfl : kC[0]? = _) kA_0 rfl rfl (Nat.le_of_ble_eq_true rfl) ⟨Nat.le_of_ble_eq_true rfl, Nat.le_of_ble_eq_true rfl⟩ (Nat.le_of_ble_eq_true rfl) (Nat.le_of_ble_eq_true rfl) (fun _ _ h => h) (fun st1 h => ?_)
  refine jr_iload_n (q := 2) C dKT_width_5 rfl rfl ?_
  refine jr_iconst (v := 1) C dKT_width_6 (by decide) ?_
  refine jr_sipush (v := 1000) C dKT_width_7 (by decide) ?_
  refine jr_callXSvi (As := [.int l2, .int (1 : Int32), .int (1000 : Int32)]) (rest := []) C hlocks hnt hZ hs9 (c_KT_needWithin hl0 h) (va_cwS 3 C.2.2.2.2.1 (tg_S tm2_73 tm2_74 tm1_1 tm2_75) rfl rfl rfl ⟨by decide, by decide, by decide⟩ ⟨Nat.le_of_ble_eq_true rfl, Nat.le_of_ble_eq_true rfl⟩) dKT_width_10 rfl rfl (Nat.le_of_ble_eq_true rfl) ⟨Nat.le_of_ble_eq_true rfl, Nat.le_of_ble_eq_true rfl⟩ (Nat.le_of_ble_eq_true rfl) (Nat.le_of_ble_eq_true rfl) (fun _ _ h => h) (fun st3 h => ?_)
  refine jr_aload_n (q := 0) C dKT_width_13 rfl rfl ?_
  refine jr_getf (k := 2) C dKT_width_14 inw_KT (rfl : kC[0]? = _) (by decide) (List.mem_cons_of_mem _ tm1_134) rfl kA_0 rfl ?_
  refine jr_getf (k := 3) C dKT_width_17 inw_Ex (rfl : kC[1]? = _) (by decide) (List.mem_cons_of_mem _ tm1_44) rfl kA_1 rfl ?_
  refine jr_iload_n (q := 1) C dKT_width_20 rfl rfl ?_
  obtain ⟨h5, h⟩ := h
  refine jr_iald (t0 := 0) C dKT_width_21 kA_7 rfl h5 ?_
  refine jr_istore_n (lv' := [(3, .int (st3 7 (Int32.toNatClampNeg l1))), (0, .ref (ad 0)), (1, .int l1), (2, .int l2)]) C dKT_width_22 rfl (by decide) rfl ?_
  refine jr_aload_n (q := 1) C dKT_width_23 rfl rfl ?_
  refine jr_getf (k := 2) C dKT_width_24 inw_KT (rfl : kC[0]? = _) (by decide) (List.mem_cons_of_mem _ tm1_134) rfl kA_0 rfl ?_
  refine jr_getf (k := 3) C dKT_width_27 inw_Ex (rfl : kC[1]? = _) (by decide) (List.mem_cons_of_mem _ tm1_44) rfl kA_1 rfl ?_
  refine jr_iload_n (q := 2) C dKT_width_30 rfl rfl ?_
  refine jr_iload_n (q := 3) C dKT_width_31 rfl rfl ?_
  obtain ⟨h6, h⟩ := h
  refine jr_iast (t0 := 0) C dKT_width_32 kA_7 rfl h6 ?_
  refine jr_ws (ws' := kW cI cII cL ad K F fr (jq st3 7 (Int32.toNatClampNeg l1) l2)) (kP_7) ?_
  refine jr_iload_n (q := 0) C dKT_width_33 rfl rfl ?_
  exact jr_retXi C hr hlocks dKT_width_34 (Nat.le_of_ble_eq_true rfl) (Nat.le_of_ble_eq_true rfl) h rfl
def wp_KT_cell (K F : Nat) (st : jS) (l1 : Int32) (l2 : Int32) (post : Int32 → jS → Prop) (xp : String → jS → Prop) : Prop :=
  wp_KT_needExample K F st l1 (fun st1 => wp_KT_needFeature K F st1 l2 (fun st3 => wp_Ex_cellOf K F st3 l1 l2 (fun r6 st5 => post r6 st5)) xp) xp
set_option maxRecDepth 100000 in
set_option maxHeartbeats 4000000 in
theorem c_KT_cell (hl0 : l.stackTraces = false) {st : jS} {l1 : Int32} {l2 : Int32} {post : Int32 → jS → Prop} {xp : String → jS → Prop} (h : wp_KT_cell K F st l1 l2 post xp) : jr_Ti l yKT_cell wKT_cell ({ frames := 7, cells := 2, slots := 12, locals := 111 }) [.ref (ad 0), .int l1, .int l2] D kC (kT cI cII cL cJ) (kW cI cII cL ad K F fr st) (kS sa) (kW cI cII cL ad K F fr) post xp 2 12 := by
  refine jr_ofXi (cc := bKT_cell) (nL := 3) (lv := [(0, .ref (ad 0)), (1, .int l1), (2, .int l2)]) (by decide) rfl (Nat.le_of_ble_eq_true rfl) rfl (fun p e s m args below meth c A C hr hlocks hnt hZ hs9 => ?_)
  unfold wp_KT_cell at h
  refine jr_aload_n (q := 0) C dKT_cell_0 rfl rfl ?_
  refine jr_iload_n (q := 1) C dKT_cell_1 rfl rfl ?_
  refine jr_callXVvi (As := [.int l1]) (rest := []) C hlocks hnt hZ hs9 (c_KT_needExample hl0 h) (cwV 1 C.2.2.2.2.1 (tg_V tm2_63 tm2_65 tp_5 tm1_1 tm2_66) rfl rfl rfl ⟨rfl, by decide, by decide, by decide⟩ ⟨Nat.le_of_ble_eq_true rfl, Nat.le_of_ble_eq_true rfl⟩) dKT_cell_2 (rfl : kC[0]? = _) kA_0 rfl rfl (Nat.le_of_ble_eq_true rfl) ⟨Nat.le_of_ble_eq_true rfl, Nat.le_of_ble_eq_true rfl⟩ (Nat.le_of_ble_eq_true rfl) (Nat.le_of_ble_eq_true rfl) (fun _ _ h => h) (fun st1 h => ?_)
  refine jr_aload_n (q := 0) C dKT_cell_5 rfl rfl ?_
  refine jr_iload_n (q := 2) C dKT_cell_6 rfl rfl ?_
  refine jr_callXVvi (As := [.int l2]) (rest := []) C hlocks hnt hZ hs9 (c_KT_needFeature hl0 h) (cwV 1 C.2.2.2.2.1 (tg_V tm2_68 tm2_70 tp_6 tm1_1 tm2_71) rfl rfl rfl ⟨rfl, by decide, by decide, by decide⟩ ⟨Nat.le_of_ble_eq_true rfl, Nat.le_of_ble_eq_true rfl⟩) dKT_cell_7 (rfl : kC[0]? = _) kA_0 rfl rfl (Nat.le_of_ble_eq_true rfl) ⟨Nat.le_of_ble_eq_true rfl, Nat.le_of_ble_eq_true rfl⟩ (Nat.le_of_ble_eq_true rfl) (Nat.le_of_ble_eq_true rfl) (fun _ _ h => h) (fun st3 h => ?_)
  refine jr_aload_n (q := 0) C dKT_cell_10 rfl rfl ?_
  refine jr_getf (k := 2) C dKT_cell_11 inw_KT (rfl : kC[0]? = _) (by decide) (List.mem_cons_of_mem _ tm1_134) rfl kA_0 rfl ?_
  refine jr_iload_n (q := 1) C dKT_cell_14 rfl rfl ?_
  refine jr_iload_n (q := 2) C dKT_cell_15 rfl rfl ?_
  refine jr_callVi (As := [.int l1, .int l2]) (rest := []) C (c_Ex_cellOf h) (cwV 2 C.2.2.2.2.1 (tg_V tm2_113 tm1_176 tm1_177 tm1_3 tm1_178) rfl rfl rfl ⟨rfl, by decide, by decide, by decide⟩ ⟨Nat.le_of_ble_eq_true rfl, Nat.le_of_ble_eq_true rfl⟩) dKT_cell_16 (rfl : kC[1]? = _) kA_1 rfl rfl (Nat.le_of_ble_eq_true rfl) ⟨Nat.le_of_ble_eq_true rfl, Nat.le_of_ble_eq_true rfl⟩ (fun r6 st5 h => ?_)
  exact jr_retXi C hr hlocks dKT_cell_19 (Nat.le_of_ble_eq_true rfl) (Nat.le_of_ble_eq_true rfl) h rfl
def wp_KT_votes (K F : Nat) (st : jS) (l1 : Int32) (l2 : Int32) (post : Int32 → jS → Prop) (xp : String → jS → Prop) : Prop :=
  wp_KT_needExample K F st l1 (fun st1 => wp_KT_needKind K F st1 l2 (fun st3 => wp_Te_votesFor K F st3 l1 l2 (fun r6 st5 => post r6 st5)) xp) xp
set_option maxRecDepth 100000 in
set_option maxHeartbeats 4000000 in
theorem c_KT_votes (hl0 : l.stackTraces = false) {st : jS} {l1 : Int32} {l2 : Int32} {post : Int32 → jS → Prop} {xp : String → jS → Prop} (h : wp_KT_votes K F st l1 l2 post xp) : jr_Ti l yKT_votes wKT_votes ({ frames := 7, cells := 2, slots := 12, locals := 111 }) [.ref (ad 0), .int l1, .int l2] D kC (kT cI cII cL cJ) (kW cI cII cL ad K F fr st) (kS sa) (kW cI cII cL ad K F fr) post xp 2 12 := by
  refine jr_ofXi (cc := bKT_votes) (nL := 3) (lv := [(0, .ref (ad 0)), (1, .int l1), (2, .int l2)]) (by decide) rfl (Nat.le_of_ble_eq_true rfl) rfl (fun p e s m args below meth c A C hr hlocks hnt hZ hs9 => ?_)
  unfold wp_KT_votes at h
  refine jr_aload_n (q := 0) C dKT_votes_0 rfl rfl ?_
  refine jr_iload_n (q := 1) C dKT_votes_1 rfl rfl ?_
  refine jr_callXVvi (As := [.int l1]) (rest := []) C hlocks hnt hZ hs9 (c_KT_needExample hl0 h) (cwV 1 C.2.2.2.2.1 (tg_V tm2_63 tm2_65 tp_5 tm1_1 tm2_66) rfl rfl rfl ⟨rfl, by decide, by decide, by decide⟩ ⟨Nat.le_of_ble_eq_true rfl, Nat.le_of_ble_eq_true rfl⟩) dKT_votes_2 (rfl : kC[0]? = _) kA_0 rfl rfl (Nat.le_of_ble_eq_true rfl) ⟨Nat.le_of_ble_eq_true rfl, Nat.le_of_ble_eq_true rfl⟩ (Nat.le_of_ble_eq_true rfl) (Nat.le_of_ble_eq_true rfl) (fun _ _ h => h) (fun st1 h => ?_)
  refine jr_aload_n (q := 0) C dKT_votes_5 rfl rfl ?_
  refine jr_iload_n (q := 2) C dKT_votes_6 rfl rfl ?_
  refine jr_callXVvi (As := [.int l2]) (rest := []) C hlocks hnt hZ hs9 (c_KT_needKind hl0 h) (cwV 1 C.2.2.2.2.1 (tg_V tm1_203 tm1_205 tp_3 tm1_1 tm1_206) rfl rfl rfl ⟨rfl, by decide, by decide, by decide⟩ ⟨Nat.le_of_ble_eq_true rfl, Nat.le_of_ble_eq_true rfl⟩) dKT_votes_7 (rfl : kC[0]? = _) kA_0 rfl rfl (Nat.le_of_ble_eq_true rfl) ⟨Nat.le_of_ble_eq_true rfl, Nat.le_of_ble_eq_true rfl⟩ (Nat.le_of_ble_eq_true rfl) (Nat.le_of_ble_eq_true rfl) (fun _ _ h => h) (fun st3 h => ?_)
  refine jr_aload_n (q := 0) C dKT_votes_10 rfl rfl ?_
  refine jr_getf (k := 3) C dKT_votes_11 inw_KT (rfl : kC[0]? = _) (by decide) (List.mem_cons_of_mem _ tm1_135) rfl kA_0 rfl ?_
  refine jr_iload_n (q := 1) C dKT_votes_14 rfl rfl ?_
  refine jr_iload_n (q := 2) C dKT_votes_15 rfl rfl ?_
  refine jr_callVi (As := [.int l1, .int l2]) (rest := []) C (c_Te_votesFor h) (cwV 2 C.2.2.2.2.1 (tg_V tm2_121 tm2_122 tm2_123 tm1_4 tm2_124) rfl rfl rfl ⟨rfl, by decide, by decide, by decide⟩ ⟨Nat.le_of_ble_eq_true rfl, Nat.le_of_ble_eq_true rfl⟩) dKT_votes_16 (rfl : kC[2]? = _) kA_2 rfl rfl (Nat.le_of_ble_eq_true rfl) ⟨Nat.le_of_ble_eq_true rfl, Nat.le_of_ble_eq_true rfl⟩ (fun r6 st5 h => ?_)
  exact jr_retXi C hr hlocks dKT_votes_19 (Nat.le_of_ble_eq_true rfl) (Nat.le_of_ble_eq_true rfl) h rfl
def wp_KT_tell (K F : Nat) (st : jS) (l1 : Int32) (post : Int32 → jS → Prop) (xp : String → jS → Prop) : Prop :=
  wp_KT_needExample K F st l1 (fun st1 => wp_Te_told K F st1 l1 (fun r4 st3 => post r4 st3)) xp
set_option maxRecDepth 100000 in
set_option maxHeartbeats 4000000 in
theorem c_KT_tell (hl0 : l.stackTraces = false) {st : jS} {l1 : Int32} {post : Int32 → jS → Prop} {xp : String → jS → Prop} (h : wp_KT_tell K F st l1 post xp) : jr_Ti l yKT_tell wKT_tell ({ frames := 7, cells := 1, slots := 6, locals := 120 }) [.ref (ad 0), .int l1] D kC (kT cI cII cL cJ) (kW cI cII cL ad K F fr st) (kS sa) (kW cI cII cL ad K F fr) post xp 1 6 := by
  refine jr_ofXi (cc := bKT_tell) (nL := 2) (lv := [(0, .ref (ad 0)), (1, .int l1)]) (by decide) rfl (Nat.le_of_ble_eq_true rfl) rfl (fun p e s m args below meth c A C hr hlocks hnt hZ hs9 => ?_)
  unfold wp_KT_tell at h
  refine jr_aload_n (q := 0) C dKT_tell_0 rfl rfl ?_
  refine jr_iload_n (q := 1) C dKT_tell_1 rfl rfl ?_
  refine jr_callXVvi (As := [.int l1]) (rest := []) C hlocks hnt hZ hs9 (c_KT_needExample hl0 h) (cwV 1 C.2.2.2.2.1 (tg_V tm2_63 tm2_65 tp_5 tm1_1 tm2_66) rfl rfl rfl ⟨rfl, by decide, by decide, by decide⟩ ⟨Nat.le_of_ble_eq_true rfl, Nat.le_of_ble_eq_true rfl⟩) dKT_tell_2 (rfl : kC[0]? = _) kA_0 rfl rfl (Nat.le_of_ble_eq_true rfl) ⟨Nat.le_of_ble_eq_true rfl, Nat.le_of_ble_eq_true rfl⟩ (Nat.le_of_ble_eq_true rfl) (Nat.le_of_ble_eq_true rfl) (fun _ _ h => h) (fun st1 h => ?_)
  refine jr_aload_n (q := 0) C dKT_tell_5 rfl rfl ?_
  refine jr_getf (k := 3) C dKT_tell_6 inw_KT (rfl : kC[0]? = _) (by decide) (List.mem_cons_of_mem _ tm1_135) rfl kA_0 rfl ?_
  refine jr_iload_n (q := 1) C dKT_tell_9 rfl rfl ?_
  refine jr_callVi (As := [.int l1]) (rest := []) C (c_Te_told h) (cwV 1 C.2.2.2.2.1 (tg_V tm2_132 tm1_160 tm1_161 tm1_4 tm1_162) rfl rfl rfl ⟨rfl, by decide, by decide, by decide⟩ ⟨Nat.le_of_ble_eq_true rfl, Nat.le_of_ble_eq_true rfl⟩) dKT_tell_10 (rfl : kC[2]? = _) kA_2 rfl rfl (Nat.le_of_ble_eq_true rfl) ⟨Nat.le_of_ble_eq_true rfl, Nat.le_of_ble_eq_true rfl⟩ (fun r4 st3 h => ?_)
  exact jr_retXi C hr hlocks dKT_tell_13 (Nat.le_of_ble_eq_true rfl) (Nat.le_of_ble_eq_true rfl) h rfl
def wp_KT_bound (K F : Nat) (st : jS) (l1 : Int32) (post : Int32 → jS → Prop) (xp : String → jS → Prop) : Prop :=
  wp_KT_needWithin K F st l1 (0 : Int32) (1000 : Int32) (fun st1 => post (st1 2 5) (jq st1 2 5 l1)) xp
set_option maxRecDepth 100000 in
set_option maxHeartbeats 4000000 in
theorem c_KT_bound (hl0 : l.stackTraces = false) {st : jS} {l1 : Int32} {post : Int32 → jS → Prop} {xp : String → jS → Prop} (h : wp_KT_bound K F st l1 post xp) : jr_Ti l yKT_bound wKT_bound ({ frames := 7, cells := 1, slots := 6, locals := 112 }) [.ref (ad 0), .int l1] D kC (kT cI cII cL cJ) (kW cI cII cL ad K F fr st) (kS sa) (kW cI cII cL ad K F fr) post xp 1 6 := by
  refine jr_ofXi (cc := bKT_bound) (nL := 3) (lv := [(0, .ref (ad 0)), (1, .int l1)]) (by decide) rfl (Nat.le_of_ble_eq_true rfl) rfl (fun p e s m args below meth c A C hr hlocks hnt hZ hs9 => ?_)
  unfold wp_KT_bound at h
  refine jr_iload_n (q := 1) C dKT_bound_0 rfl rfl ?_
  refine jr_iconst (v := 0) C dKT_bound_1 (by decide) ?_
  refine jr_sipush (v := 1000) C dKT_bound_2 (by decide) ?_
  refine jr_callXSvi (As := [.int l1, .int (0 : Int32), .int (1000 : Int32)]) (rest := []) C hlocks hnt hZ hs9 (c_KT_needWithin hl0 h) (va_cwS 3 C.2.2.2.2.1 (tg_S tm2_73 tm2_74 tm1_1 tm2_75) rfl rfl rfl ⟨by decide, by decide, by decide⟩ ⟨Nat.le_of_ble_eq_true rfl, Nat.le_of_ble_eq_true rfl⟩) dKT_bound_5 rfl rfl (Nat.le_of_ble_eq_true rfl) ⟨Nat.le_of_ble_eq_true rfl, Nat.le_of_ble_eq_true rfl⟩ (Nat.le_of_ble_eq_true rfl) (Nat.le_of_ble_eq_true rfl) (fun _ _ h => h) (fun st1 h => ?_)
  refine jr_aload_n (q := 0) C dKT_bound_8 rfl rfl ?_
  refine jr_getf (k := 3) C dKT_bound_9 inw_KT (rfl : kC[0]? = _) (by decide) (List.mem_cons_of_mem _ tm1_135) rfl kA_0 rfl ?_
  refine jr_getf (k := 5) C dKT_bound_12 inw_Te (rfl : kC[2]? = _) (by decide) (List.mem_cons_of_mem _ tm1_75) rfl kA_2 rfl ?_
  refine jr_istore_n (lv' := [(2, .int (st1 2 5)), (0, .ref (ad 0)), (1, .int l1)]) C dKT_bound_15 rfl (by decide) rfl ?_
  refine jr_aload_n (q := 1) C dKT_bound_16 rfl rfl ?_
  refine jr_getf (k := 3) C dKT_bound_17 inw_KT (rfl : kC[0]? = _) (by decide) (List.mem_cons_of_mem _ tm1_135) rfl kA_0 rfl ?_
  refine jr_iload_n (q := 2) C dKT_bound_20 rfl rfl ?_
  refine jr_putf (k := 5) C dKT_bound_21 inw_Te ty_Te ty_Te_ok nm_Te (rfl : kC[2]? = _) (by decide) (List.mem_cons_of_mem _ tm1_75) rfl rfl (ty := .int) rfl rfl rfl kA_2 (Nat.le_of_ble_eq_true rfl) ?_
  refine jr_ws (ws' := kW cI cII cL ad K F fr (jq st1 2 5 l1)) (kP_2) ?_
  refine jr_iload_n (q := 0) C dKT_bound_24 rfl rfl ?_
  exact jr_retXi C hr hlocks dKT_bound_25 (Nat.le_of_ble_eq_true rfl) (Nat.le_of_ble_eq_true rfl) h rfl
def wp_KT_prefer (K F : Nat) (st : jS) (l1 : Int32) (post : Int32 → jS → Prop) (xp : String → jS → Prop) : Prop :=
  wp_KT_needKind K F st l1 (fun st1 => wp_Te_bringToFront K F st1 l1 (fun r4 st3 => post r4 st3)) xp
set_option maxRecDepth 100000 in
set_option maxHeartbeats 4000000 in
theorem c_KT_prefer (hl0 : l.stackTraces = false) {st : jS} {l1 : Int32} {post : Int32 → jS → Prop} {xp : String → jS → Prop} (h : wp_KT_prefer K F st l1 post xp) : jr_Ti l yKT_prefer wKT_prefer ({ frames := 7, cells := 1, slots := 6, locals := 111 }) [.ref (ad 0), .int l1] D kC (kT cI cII cL cJ) (kW cI cII cL ad K F fr st) (kS sa) (kW cI cII cL ad K F fr) post xp 1 6 := by
  refine jr_ofXi (cc := bKT_prefer) (nL := 2) (lv := [(0, .ref (ad 0)), (1, .int l1)]) (by decide) rfl (Nat.le_of_ble_eq_true rfl) rfl (fun p e s m args below meth c A C hr hlocks hnt hZ hs9 => ?_)
  unfold wp_KT_prefer at h
  refine jr_aload_n (q := 0) C dKT_prefer_0 rfl rfl ?_
  refine jr_iload_n (q := 1) C dKT_prefer_1 rfl rfl ?_
  refine jr_callXVvi (As := [.int l1]) (rest := []) C hlocks hnt hZ hs9 (c_KT_needKind hl0 h) (cwV 1 C.2.2.2.2.1 (tg_V tm1_203 tm1_205 tp_3 tm1_1 tm1_206) rfl rfl rfl ⟨rfl, by decide, by decide, by decide⟩ ⟨Nat.le_of_ble_eq_true rfl, Nat.le_of_ble_eq_true rfl⟩) dKT_prefer_2 (rfl : kC[0]? = _) kA_0 rfl rfl (Nat.le_of_ble_eq_true rfl) ⟨Nat.le_of_ble_eq_true rfl, Nat.le_of_ble_eq_true rfl⟩ (Nat.le_of_ble_eq_true rfl) (Nat.le_of_ble_eq_true rfl) (fun _ _ h => h) (fun st1 h => ?_)
  refine jr_aload_n (q := 0) C dKT_prefer_5 rfl rfl ?_
  refine jr_getf (k := 3) C dKT_prefer_6 inw_KT (rfl : kC[0]? = _) (by decide) (List.mem_cons_of_mem _ tm1_135) rfl kA_0 rfl ?_
  refine jr_iload_n (q := 1) C dKT_prefer_9 rfl rfl ?_
  refine jr_callVi (As := [.int l1]) (rest := []) C (c_Te_bringToFront h) (cwV 1 C.2.2.2.2.1 (tg_V tm2_147 tm2_148 tm2_149 tm1_4 tm2_150) rfl rfl rfl ⟨rfl, by decide, by decide, by decide⟩ ⟨Nat.le_of_ble_eq_true rfl, Nat.le_of_ble_eq_true rfl⟩) dKT_prefer_10 (rfl : kC[2]? = _) kA_2 rfl rfl (Nat.le_of_ble_eq_true rfl) ⟨Nat.le_of_ble_eq_true rfl, Nat.le_of_ble_eq_true rfl⟩ (fun r4 st3 h => ?_)
  exact jr_retXi C hr hlocks dKT_prefer_13 (Nat.le_of_ble_eq_true rfl) (Nat.le_of_ble_eq_true rfl) h rfl
def wp_KT_needPart (K F : Nat) (st : jS) (l0 : Int32) (post : jS → Prop) (xp : String → jS → Prop) : Prop :=
  ((l0 = 0 → post st) ∧ (¬ l0 = 0 → ((l0 = (1 : Int32) → post st) ∧ (¬ l0 = (1 : Int32) → xp "java/lang/IndexOutOfBoundsException" st))))
set_option maxRecDepth 100000 in
set_option maxHeartbeats 4000000 in
theorem c_KT_needPart (hl0 : l.stackTraces = false) {st : jS} {l0 : Int32} {post : jS → Prop} {xp : String → jS → Prop} (h : wp_KT_needPart K F st l0 post xp) : jr_Tv l yKT_needPart wKT_needPart ({ frames := 6, cells := 1, slots := 6, locals := 90 }) [.int l0] D kC (kT cI cII cL cJ) (kW cI cII cL ad K F fr st) (kS sa) (kW cI cII cL ad K F fr) post xp 1 6 := by
  refine jr_ofXv (cc := bKT_needPart) (nL := 1) (lv := [(0, .int l0)]) (by decide) rfl (Nat.le_of_ble_eq_true rfl) rfl (fun p e s m args below meth c A C hr hlocks hnt hZ hs9 => ?_)
  unfold wp_KT_needPart at h
  refine jr_iload_n (q := 0) C dKT_needPart_0 rfl rfl ?_
  refine jr_if_eq (tgt := 19) C dKT_needPart_1 (by decide) (fun z => ?_) (fun z => ?_)
  · have h := h.1 z
    exact jr_retXv C hr hlocks dKT_needPart_19 (Nat.le_of_ble_eq_true rfl) (Nat.le_of_ble_eq_true rfl) h rfl
  · have h := h.2 z
    refine jr_iload_n (q := 0) C dKT_needPart_4 rfl rfl ?_
    refine jr_iconst (v := 1) C dKT_needPart_5 (by decide) ?_
    refine jr_icmp_eq (tgt := 19) C dKT_needPart_6 (by decide) (fun z => ?_) (fun z => ?_)
    · have h := h.1 z
      exact jr_retXv C hr hlocks dKT_needPart_19 (Nat.le_of_ble_eq_true rfl) (Nat.le_of_ble_eq_true rfl) h rfl
    · have h := h.2 z
      exact jr_throwS C hl0 hZ hlocks hnt (ks_5 hs9) tf_186 tfn (C.2.2.2.2.1 _ (List.mem_cons_of_mem _ tm1_207)) (C.2.2.2.2.1 _ (List.mem_cons_of_mem _ tm1_11)) (th_186_190 C) (tx_186_190) dKT_needPart_9 dKT_needPart_12 dKT_needPart_13 dKT_needPart_15 dKT_needPart_18 (Nat.le_of_ble_eq_true rfl) (Nat.le_of_ble_eq_true rfl) (Nat.le_of_ble_eq_true rfl) (Nat.le_of_ble_eq_true rfl) (Nat.le_of_ble_eq_true rfl) (Nat.le_of_ble_eq_true rfl) h rfl
def wp_KT_wrong (K F : Nat) (st : jS) (l1 : Int32) (l2 : Int32) (l3 : Int32) (post : Int32 → jS → Prop) (xp : String → jS → Prop) : Prop :=
  wp_KT_needKind K F st l1 (fun st1 => wp_KT_needKindOrNone K F st1 l2 (fun st3 => wp_KT_needPart K F st3 l3 (fun st5 => wp_Te_countTold K F st5 l1 l2 (fun r8 st7 => wp_Ex_countTaught K F st7 l1 (fun r10 st9 => wp_KT_partOf K F st9 (Int32.toInt64 r8) (Int32.toInt64 r10) l3 (fun r12 st11 => post (Int64.toInt32 r12) st11)))) xp) xp) xp
set_option maxRecDepth 100000 in
set_option maxHeartbeats 4000000 in
theorem c_KT_wrong (hl0 : l.stackTraces = false) {st : jS} {l1 : Int32} {l2 : Int32} {l3 : Int32} {post : Int32 → jS → Prop} {xp : String → jS → Prop} (h : wp_KT_wrong K F st l1 l2 l3 post xp) : jr_Ti l yKT_wrong wKT_wrong ({ frames := 8, cells := 3, slots := 18, locals := 144 }) [.ref (ad 0), .int l1, .int l2, .int l3] D kC (kT cI cII cL cJ) (kW cI cII cL ad K F fr st) (kS sa) (kW cI cII cL ad K F fr) post xp 3 18 := by
  refine jr_ofXi (cc := bKT_wrong) (nL := 4) (lv := [(0, .ref (ad 0)), (1, .int l1), (2, .int l2), (3, .int l3)]) (by decide) rfl (Nat.le_of_ble_eq_true rfl) rfl (fun p e s m args below meth c A C hr hlocks hnt hZ hs9 => ?_)
  unfold wp_KT_wrong at h
  refine jr_aload_n (q := 0) C dKT_wrong_0 rfl rfl ?_
  refine jr_iload_n (q := 1) C dKT_wrong_1 rfl rfl ?_
  refine jr_callXVvi (As := [.int l1]) (rest := []) C hlocks hnt hZ hs9 (c_KT_needKind hl0 h) (cwV 1 C.2.2.2.2.1 (tg_V tm1_203 tm1_205 tp_3 tm1_1 tm1_206) rfl rfl rfl ⟨rfl, by decide, by decide, by decide⟩ ⟨Nat.le_of_ble_eq_true rfl, Nat.le_of_ble_eq_true rfl⟩) dKT_wrong_2 (rfl : kC[0]? = _) kA_0 rfl rfl (Nat.le_of_ble_eq_true rfl) ⟨Nat.le_of_ble_eq_true rfl, Nat.le_of_ble_eq_true rfl⟩ (Nat.le_of_ble_eq_true rfl) (Nat.le_of_ble_eq_true rfl) (fun _ _ h => h) (fun st1 h => ?_)
  refine jr_aload_n (q := 0) C dKT_wrong_5 rfl rfl ?_
  refine jr_iload_n (q := 2) C dKT_wrong_6 rfl rfl ?_
  refine jr_callXVvi (As := [.int l2]) (rest := []) C hlocks hnt hZ hs9 (c_KT_needKindOrNone hl0 h) (cwV 1 C.2.2.2.2.1 (tg_V tm1_199 tm1_201 tp_2 tm1_1 tm1_202) rfl rfl rfl ⟨rfl, by decide, by decide, by decide⟩ ⟨Nat.le_of_ble_eq_true rfl, Nat.le_of_ble_eq_true rfl⟩) dKT_wrong_7 (rfl : kC[0]? = _) kA_0 rfl rfl (Nat.le_of_ble_eq_true rfl) ⟨Nat.le_of_ble_eq_true rfl, Nat.le_of_ble_eq_true rfl⟩ (Nat.le_of_ble_eq_true rfl) (Nat.le_of_ble_eq_true rfl) (fun _ _ h => h) (fun st3 h => ?_)
  refine jr_iload_n (q := 3) C dKT_wrong_10 rfl rfl ?_
  refine jr_callXSvi (As := [.int l3]) (rest := []) C hlocks hnt hZ hs9 (c_KT_needPart hl0 h) (va_cwS 1 C.2.2.2.2.1 (tg_S tm2_162 tm2_163 tm1_1 tm2_164) rfl rfl rfl ⟨by decide, by decide, by decide⟩ ⟨Nat.le_of_ble_eq_true rfl, Nat.le_of_ble_eq_true rfl⟩) dKT_wrong_11 rfl rfl (Nat.le_of_ble_eq_true rfl) ⟨Nat.le_of_ble_eq_true rfl, Nat.le_of_ble_eq_true rfl⟩ (Nat.le_of_ble_eq_true rfl) (Nat.le_of_ble_eq_true rfl) (fun _ _ h => h) (fun st5 h => ?_)
  refine jr_aload_n (q := 0) C dKT_wrong_14 rfl rfl ?_
  refine jr_getf (k := 3) C dKT_wrong_15 inw_KT (rfl : kC[0]? = _) (by decide) (List.mem_cons_of_mem _ tm1_135) rfl kA_0 rfl ?_
  refine jr_iload_n (q := 1) C dKT_wrong_18 rfl rfl ?_
  refine jr_iload_n (q := 2) C dKT_wrong_19 rfl rfl ?_
  refine jr_callVi (As := [.int l1, .int l2]) (rest := []) C (c_Te_countTold h) (cwV 2 C.2.2.2.2.1 (tg_V tm2_166 tm2_167 tm2_168 tm1_4 tm2_169) rfl rfl rfl ⟨rfl, by decide, by decide, by decide⟩ ⟨Nat.le_of_ble_eq_true rfl, Nat.le_of_ble_eq_true rfl⟩) dKT_wrong_20 (rfl : kC[2]? = _) kA_2 rfl rfl (Nat.le_of_ble_eq_true rfl) ⟨Nat.le_of_ble_eq_true rfl, Nat.le_of_ble_eq_true rfl⟩ (fun r8 st7 h => ?_)
  refine jr_i2l C dKT_wrong_23 ?_
  refine jr_aload_n (q := 0) C dKT_wrong_24 rfl rfl ?_
  refine jr_getf (k := 2) C dKT_wrong_25 inw_KT (rfl : kC[0]? = _) (by decide) (List.mem_cons_of_mem _ tm1_134) rfl kA_0 rfl ?_
  refine jr_iload_n (q := 1) C dKT_wrong_28 rfl rfl ?_
  refine jr_callVi (As := [.int l1]) (rest := [.long (Int32.toInt64 r8)]) C (c_Ex_countTaught h) (cwV 1 C.2.2.2.2.1 (tg_V tm1_183 tm1_184 tm1_185 tm1_3 tm1_186) rfl rfl rfl ⟨rfl, by decide, by decide, by decide⟩ ⟨Nat.le_of_ble_eq_true rfl, Nat.le_of_ble_eq_true rfl⟩) dKT_wrong_29 (rfl : kC[1]? = _) kA_1 rfl rfl (Nat.le_of_ble_eq_true rfl) ⟨Nat.le_of_ble_eq_true rfl, Nat.le_of_ble_eq_true rfl⟩ (fun r10 st9 h => ?_)
  refine jr_i2l C dKT_wrong_32 ?_
  refine jr_iload_n (q := 3) C dKT_wrong_33 rfl rfl ?_
  refine jr_callSl (As := [.long (Int32.toInt64 r8), .long (Int32.toInt64 r10), .int l3]) (rest := []) C (c_KT_partOf h) (va_cwS 3 C.2.2.2.2.1 (tg_S tm2_170 tm2_171 tm1_1 tm2_172) rfl rfl rfl ⟨by decide, by decide, by decide⟩ ⟨Nat.le_of_ble_eq_true rfl, Nat.le_of_ble_eq_true rfl⟩) dKT_wrong_34 rfl rfl (Nat.le_of_ble_eq_true rfl) ⟨Nat.le_of_ble_eq_true rfl, Nat.le_of_ble_eq_true rfl⟩ (fun r12 st11 h => ?_)
  refine jr_l2i C dKT_wrong_37 ?_
  exact jr_retXi C hr hlocks dKT_wrong_38 (Nat.le_of_ble_eq_true rfl) (Nat.le_of_ble_eq_true rfl) h rfl
def wp_KT_right (K F : Nat) (st : jS) (l1 : Int32) (post : Int32 → jS → Prop) (xp : String → jS → Prop) : Prop :=
  wp_KT_needFeature K F st l1 (fun st1 => wp_Te_rightBy K F st1 l1 (fun r4 st3 => post r4 st3)) xp
set_option maxRecDepth 100000 in
set_option maxHeartbeats 4000000 in
theorem c_KT_right (hl0 : l.stackTraces = false) {st : jS} {l1 : Int32} {post : Int32 → jS → Prop} {xp : String → jS → Prop} (h : wp_KT_right K F st l1 post xp) : jr_Ti l yKT_right wKT_right ({ frames := 7, cells := 1, slots := 6, locals := 123 }) [.ref (ad 0), .int l1] D kC (kT cI cII cL cJ) (kW cI cII cL ad K F fr st) (kS sa) (kW cI cII cL ad K F fr) post xp 1 6 := by
  refine jr_ofXi (cc := bKT_right) (nL := 2) (lv := [(0, .ref (ad 0)), (1, .int l1)]) (by decide) rfl (Nat.le_of_ble_eq_true rfl) rfl (fun p e s m args below meth c A C hr hlocks hnt hZ hs9 => ?_)
  unfold wp_KT_right at h
  refine jr_aload_n (q := 0) C dKT_right_0 rfl rfl ?_
  refine jr_iload_n (q := 1) C dKT_right_1 rfl rfl ?_
  refine jr_callXVvi (As := [.int l1]) (rest := []) C hlocks hnt hZ hs9 (c_KT_needFeature hl0 h) (cwV 1 C.2.2.2.2.1 (tg_V tm2_68 tm2_70 tp_6 tm1_1 tm2_71) rfl rfl rfl ⟨rfl, by decide, by decide, by decide⟩ ⟨Nat.le_of_ble_eq_true rfl, Nat.le_of_ble_eq_true rfl⟩) dKT_right_2 (rfl : kC[0]? = _) kA_0 rfl rfl (Nat.le_of_ble_eq_true rfl) ⟨Nat.le_of_ble_eq_true rfl, Nat.le_of_ble_eq_true rfl⟩ (Nat.le_of_ble_eq_true rfl) (Nat.le_of_ble_eq_true rfl) (fun _ _ h => h) (fun st1 h => ?_)
  refine jr_aload_n (q := 0) C dKT_right_5 rfl rfl ?_
  refine jr_getf (k := 3) C dKT_right_6 inw_KT (rfl : kC[0]? = _) (by decide) (List.mem_cons_of_mem _ tm1_135) rfl kA_0 rfl ?_
  refine jr_iload_n (q := 1) C dKT_right_9 rfl rfl ?_
  refine jr_callVi (As := [.int l1]) (rest := []) C (c_Te_rightBy h) (cwV 1 C.2.2.2.2.1 (tg_V tm2_183 tm2_184 tm2_185 tm1_4 tm2_186) rfl rfl rfl ⟨rfl, by decide, by decide, by decide⟩ ⟨Nat.le_of_ble_eq_true rfl, Nat.le_of_ble_eq_true rfl⟩) dKT_right_10 (rfl : kC[2]? = _) kA_2 rfl rfl (Nat.le_of_ble_eq_true rfl) ⟨Nat.le_of_ble_eq_true rfl, Nat.le_of_ble_eq_true rfl⟩ (fun r4 st3 h => ?_)
  exact jr_retXi C hr hlocks dKT_right_13 (Nat.le_of_ble_eq_true rfl) (Nat.le_of_ble_eq_true rfl) h rfl
def wp_KT_best (K F : Nat) (st : jS) (l1 : Int32) (post : Int32 → jS → Prop) (xp : String → jS → Prop) : Prop :=
  wp_KT_needFeature K F st l1 (fun st1 => wp_Te_featureAt K F st1 l1 (fun r4 st3 => post r4 st3)) xp
set_option maxRecDepth 100000 in
set_option maxHeartbeats 4000000 in
theorem c_KT_best (hl0 : l.stackTraces = false) {st : jS} {l1 : Int32} {post : Int32 → jS → Prop} {xp : String → jS → Prop} (h : wp_KT_best K F st l1 post xp) : jr_Ti l yKT_best wKT_best ({ frames := 7, cells := 1, slots := 6, locals := 145 }) [.ref (ad 0), .int l1] D kC (kT cI cII cL cJ) (kW cI cII cL ad K F fr st) (kS sa) (kW cI cII cL ad K F fr) post xp 1 6 := by
  refine jr_ofXi (cc := bKT_best) (nL := 2) (lv := [(0, .ref (ad 0)), (1, .int l1)]) (by decide) rfl (Nat.le_of_ble_eq_true rfl) rfl (fun p e s m args below meth c A C hr hlocks hnt hZ hs9 => ?_)
  unfold wp_KT_best at h
  refine jr_aload_n (q := 0) C dKT_best_0 rfl rfl ?_
  refine jr_iload_n (q := 1) C dKT_best_1 rfl rfl ?_
  refine jr_callXVvi (As := [.int l1]) (rest := []) C hlocks hnt hZ hs9 (c_KT_needFeature hl0 h) (cwV 1 C.2.2.2.2.1 (tg_V tm2_68 tm2_70 tp_6 tm1_1 tm2_71) rfl rfl rfl ⟨rfl, by decide, by decide, by decide⟩ ⟨Nat.le_of_ble_eq_true rfl, Nat.le_of_ble_eq_true rfl⟩) dKT_best_2 (rfl : kC[0]? = _) kA_0 rfl rfl (Nat.le_of_ble_eq_true rfl) ⟨Nat.le_of_ble_eq_true rfl, Nat.le_of_ble_eq_true rfl⟩ (Nat.le_of_ble_eq_true rfl) (Nat.le_of_ble_eq_true rfl) (fun _ _ h => h) (fun st1 h => ?_)
  refine jr_aload_n (q := 0) C dKT_best_5 rfl rfl ?_
  refine jr_getf (k := 3) C dKT_best_6 inw_KT (rfl : kC[0]? = _) (by decide) (List.mem_cons_of_mem _ tm1_135) rfl kA_0 rfl ?_
  refine jr_iload_n (q := 1) C dKT_best_9 rfl rfl ?_
  refine jr_callVi (As := [.int l1]) (rest := []) C (c_Te_featureAt h) (cwV 1 C.2.2.2.2.1 (tg_V tm2_194 tm2_195 tm2_196 tm1_4 tm2_197) rfl rfl rfl ⟨rfl, by decide, by decide, by decide⟩ ⟨Nat.le_of_ble_eq_true rfl, Nat.le_of_ble_eq_true rfl⟩) dKT_best_10 (rfl : kC[2]? = _) kA_2 rfl rfl (Nat.le_of_ble_eq_true rfl) ⟨Nat.le_of_ble_eq_true rfl, Nat.le_of_ble_eq_true rfl⟩ (fun r4 st3 h => ?_)
  exact jr_retXi C hr hlocks dKT_best_13 (Nat.le_of_ble_eq_true rfl) (Nat.le_of_ble_eq_true rfl) h rfl
def wp_KT_unknown (K F : Nat) (st : jS) (post : Int32 → jS → Prop) : Prop :=
  wp_Te_countUnknown K F st (fun r2 st1 => post r2 st1)
set_option maxRecDepth 100000 in
set_option maxHeartbeats 4000000 in
theorem c_KT_unknown {st : jS} {post : Int32 → jS → Prop} (h : wp_KT_unknown K F st post) : jr_Mi l yKT_unknown wKT_unknown ({ frames := 6, cells := 0, slots := 0, locals := 142 }) [.ref (ad 0)] D kC (kT cI cII cL cJ) (kW cI cII cL ad K F fr st) (kW cI cII cL ad K F fr) post := by
  refine jr_ofi (cc := bKT_unknown) (nL := 1) (lv := [(0, .ref (ad 0))]) (by decide) rfl (Nat.le_of_ble_eq_true rfl) rfl (fun p e s m args below meth c A C hr hlocks => ?_)
  unfold wp_KT_unknown at h
  refine jr_aload_n (q := 0) C dKT_unknown_0 rfl rfl ?_
  refine jr_getf (k := 3) C dKT_unknown_1 inw_KT (rfl : kC[0]? = _) (by decide) (List.mem_cons_of_mem _ tm1_135) rfl kA_0 rfl ?_
  refine jr_callVi (As := []) (rest := []) C (c_Te_countUnknown h) (cwV 0 C.2.2.2.2.1 (tg_V tm1_155 tm1_156 tm1_157 tm1_4 tm1_158) rfl rfl rfl ⟨rfl, by decide, by decide, by decide⟩ ⟨Nat.le_of_ble_eq_true rfl, Nat.le_of_ble_eq_true rfl⟩) dKT_unknown_4 (rfl : kC[2]? = _) kA_2 rfl rfl (Nat.le_of_ble_eq_true rfl) ⟨Nat.le_of_ble_eq_true rfl, Nat.le_of_ble_eq_true rfl⟩ (fun r2 st1 h => ?_)
  exact jr_reti C hr hlocks dKT_unknown_7 h rfl
def wp_KT_mixed (K F : Nat) (st : jS) (l1 : Int32) (l2 : Int32) (post : Int32 → jS → Prop) (xp : String → jS → Prop) : Prop :=
  wp_KT_needKind K F st l1 (fun st1 => wp_KT_needPart K F st1 l2 (fun st3 => wp_Ex_countTaught K F st3 (-1 : Int32) (fun r6 st5 => wp_Te_countTold K F st5 (-1 : Int32) (-1 : Int32) (fun r8 st7 => wp_Te_countTold K F st7 (-1 : Int32) l1 (fun r10 st9 => wp_KT_partOf K F st9 (Int32.toInt64 r10) (Int32.toInt64 (r6 - r8)) l2 (fun r12 st11 => post (Int64.toInt32 r12) st11))))) xp) xp
set_option maxRecDepth 100000 in
set_option maxHeartbeats 4000000 in
theorem c_KT_mixed (hl0 : l.stackTraces = false) {st : jS} {l1 : Int32} {l2 : Int32} {post : Int32 → jS → Prop} {xp : String → jS → Prop} (h : wp_KT_mixed K F st l1 l2 post xp) : jr_Ti l yKT_mixed wKT_mixed ({ frames := 7, cells := 2, slots := 12, locals := 144 }) [.ref (ad 0), .int l1, .int l2] D kC (kT cI cII cL cJ) (kW cI cII cL ad K F fr st) (kS sa) (kW cI cII cL ad K F fr) post xp 2 12 := by
  refine jr_ofXi (cc := bKT_mixed) (nL := 4) (lv := [(0, .ref (ad 0)), (1, .int l1), (2, .int l2)]) (by decide) rfl (Nat.le_of_ble_eq_true rfl) rfl (fun p e s m args below meth c A C hr hlocks hnt hZ hs9 => ?_)
  unfold wp_KT_mixed at h
  refine jr_aload_n (q := 0) C dKT_mixed_0 rfl rfl ?_
  refine jr_iload_n (q := 1) C dKT_mixed_1 rfl rfl ?_
  refine jr_callXVvi (As := [.int l1]) (rest := []) C hlocks hnt hZ hs9 (c_KT_needKind hl0 h) (cwV 1 C.2.2.2.2.1 (tg_V tm1_203 tm1_205 tp_3 tm1_1 tm1_206) rfl rfl rfl ⟨rfl, by decide, by decide, by decide⟩ ⟨Nat.le_of_ble_eq_true rfl, Nat.le_of_ble_eq_true rfl⟩) dKT_mixed_2 (rfl : kC[0]? = _) kA_0 rfl rfl (Nat.le_of_ble_eq_true rfl) ⟨Nat.le_of_ble_eq_true rfl, Nat.le_of_ble_eq_true rfl⟩ (Nat.le_of_ble_eq_true rfl) (Nat.le_of_ble_eq_true rfl) (fun _ _ h => h) (fun st1 h => ?_)
  refine jr_iload_n (q := 2) C dKT_mixed_5 rfl rfl ?_
  refine jr_callXSvi (As := [.int l2]) (rest := []) C hlocks hnt hZ hs9 (c_KT_needPart hl0 h) (va_cwS 1 C.2.2.2.2.1 (tg_S tm2_162 tm2_163 tm1_1 tm2_164) rfl rfl rfl ⟨by decide, by decide, by decide⟩ ⟨Nat.le_of_ble_eq_true rfl, Nat.le_of_ble_eq_true rfl⟩) dKT_mixed_6 rfl rfl (Nat.le_of_ble_eq_true rfl) ⟨Nat.le_of_ble_eq_true rfl, Nat.le_of_ble_eq_true rfl⟩ (Nat.le_of_ble_eq_true rfl) (Nat.le_of_ble_eq_true rfl) (fun _ _ h => h) (fun st3 h => ?_)
  refine jr_aload_n (q := 0) C dKT_mixed_9 rfl rfl ?_
  refine jr_getf (k := 2) C dKT_mixed_10 inw_KT (rfl : kC[0]? = _) (by decide) (List.mem_cons_of_mem _ tm1_134) rfl kA_0 rfl ?_
  refine jr_iconst (v := -1) C dKT_mixed_13 (by decide) ?_
  refine jr_callVi (As := [.int (-1 : Int32)]) (rest := []) C (c_Ex_countTaught h) (cwV 1 C.2.2.2.2.1 (tg_V tm1_183 tm1_184 tm1_185 tm1_3 tm1_186) rfl rfl rfl ⟨rfl, by decide, by decide, by decide⟩ ⟨Nat.le_of_ble_eq_true rfl, Nat.le_of_ble_eq_true rfl⟩) dKT_mixed_14 (rfl : kC[1]? = _) kA_1 rfl rfl (Nat.le_of_ble_eq_true rfl) ⟨Nat.le_of_ble_eq_true rfl, Nat.le_of_ble_eq_true rfl⟩ (fun r6 st5 h => ?_)
  refine jr_aload_n (q := 0) C dKT_mixed_17 rfl rfl ?_
  refine jr_getf (k := 3) C dKT_mixed_18 inw_KT (rfl : kC[0]? = _) (by decide) (List.mem_cons_of_mem _ tm1_135) rfl kA_0 rfl ?_
  refine jr_iconst (v := -1) C dKT_mixed_21 (by decide) ?_
  refine jr_iconst (v := -1) C dKT_mixed_22 (by decide) ?_
  refine jr_callVi (As := [.int (-1 : Int32), .int (-1 : Int32)]) (rest := [.int r6]) C (c_Te_countTold h) (cwV 2 C.2.2.2.2.1 (tg_V tm2_166 tm2_167 tm2_168 tm1_4 tm2_169) rfl rfl rfl ⟨rfl, by decide, by decide, by decide⟩ ⟨Nat.le_of_ble_eq_true rfl, Nat.le_of_ble_eq_true rfl⟩) dKT_mixed_23 (rfl : kC[2]? = _) kA_2 rfl rfl (Nat.le_of_ble_eq_true rfl) ⟨Nat.le_of_ble_eq_true rfl, Nat.le_of_ble_eq_true rfl⟩ (fun r8 st7 h => ?_)
  refine jr_isub C dKT_mixed_26 ?_
  refine jr_istore_n (lv' := [(3, .int (r6 - r8)), (0, .ref (ad 0)), (1, .int l1), (2, .int l2)]) C dKT_mixed_27 rfl (by decide) rfl ?_
  refine jr_aload_n (q := 1) C dKT_mixed_28 rfl rfl ?_
  refine jr_getf (k := 3) C dKT_mixed_29 inw_KT (rfl : kC[0]? = _) (by decide) (List.mem_cons_of_mem _ tm1_135) rfl kA_0 rfl ?_
  refine jr_iconst (v := -1) C dKT_mixed_32 (by decide) ?_
  refine jr_iload_n (q := 2) C dKT_mixed_33 rfl rfl ?_
  refine jr_callVi (As := [.int (-1 : Int32), .int l1]) (rest := []) C (c_Te_countTold h) (cwV 2 C.2.2.2.2.1 (tg_V tm2_166 tm2_167 tm2_168 tm1_4 tm2_169) rfl rfl rfl ⟨rfl, by decide, by decide, by decide⟩ ⟨Nat.le_of_ble_eq_true rfl, Nat.le_of_ble_eq_true rfl⟩) dKT_mixed_34 (rfl : kC[2]? = _) kA_2 rfl rfl (Nat.le_of_ble_eq_true rfl) ⟨Nat.le_of_ble_eq_true rfl, Nat.le_of_ble_eq_true rfl⟩ (fun r10 st9 h => ?_)
  refine jr_i2l C dKT_mixed_37 ?_
  refine jr_iload_n (q := 0) C dKT_mixed_38 rfl rfl ?_
  refine jr_i2l C dKT_mixed_39 ?_
  refine jr_iload_n (q := 3) C dKT_mixed_40 rfl rfl ?_
  refine jr_callSl (As := [.long (Int32.toInt64 r10), .long (Int32.toInt64 (r6 - r8)), .int l2]) (rest := []) C (c_KT_partOf h) (va_cwS 3 C.2.2.2.2.1 (tg_S tm2_170 tm2_171 tm1_1 tm2_172) rfl rfl rfl ⟨by decide, by decide, by decide⟩ ⟨Nat.le_of_ble_eq_true rfl, Nat.le_of_ble_eq_true rfl⟩) dKT_mixed_41 rfl rfl (Nat.le_of_ble_eq_true rfl) ⟨Nat.le_of_ble_eq_true rfl, Nat.le_of_ble_eq_true rfl⟩ (fun r12 st11 h => ?_)
  refine jr_l2i C dKT_mixed_44 ?_
  exact jr_retXi C hr hlocks dKT_mixed_45 (Nat.le_of_ble_eq_true rfl) (Nat.le_of_ble_eq_true rfl) h rfl
def wp_KT_groups (K F : Nat) (st : jS) (l1 : Int32) (post : Int32 → jS → Prop) (xp : String → jS → Prop) : Prop :=
  wp_KT_needWithin K F st l1 (0 : Int32) (st 0 1) (fun st1 => wp_Ex_countGroups K F st1 l1 (fun r4 st3 => post r4 st3)) xp
set_option maxRecDepth 100000 in
set_option maxHeartbeats 4000000 in
theorem c_KT_groups (hl0 : l.stackTraces = false) {st : jS} {l1 : Int32} {post : Int32 → jS → Prop} {xp : String → jS → Prop} (h : wp_KT_groups K F st l1 post xp) : jr_Ti l yKT_groups wKT_groups ({ frames := 7, cells := 1, slots := 6, locals := 112 }) [.ref (ad 0), .int l1] D kC (kT cI cII cL cJ) (kW cI cII cL ad K F fr st) (kS sa) (kW cI cII cL ad K F fr) post xp 1 6 := by
  refine jr_ofXi (cc := bKT_groups) (nL := 2) (lv := [(0, .ref (ad 0)), (1, .int l1)]) (by decide) rfl (Nat.le_of_ble_eq_true rfl) rfl (fun p e s m args below meth c A C hr hlocks hnt hZ hs9 => ?_)
  unfold wp_KT_groups at h
  refine jr_iload_n (q := 1) C dKT_groups_0 rfl rfl ?_
  refine jr_iconst (v := 0) C dKT_groups_1 (by decide) ?_
  refine jr_aload_n (q := 0) C dKT_groups_2 rfl rfl ?_
  refine jr_getf (k := 1) C dKT_groups_3 inw_KT (rfl : kC[0]? = _) (by decide) (List.mem_cons_of_mem _ tm1_133) rfl kA_0 rfl ?_
  refine jr_callXSvi (As := [.int l1, .int (0 : Int32), .int (st 0 1)]) (rest := []) C hlocks hnt hZ hs9 (c_KT_needWithin hl0 h) (va_cwS 3 C.2.2.2.2.1 (tg_S tm2_73 tm2_74 tm1_1 tm2_75) rfl rfl rfl ⟨by decide, by decide, by decide⟩ ⟨Nat.le_of_ble_eq_true rfl, Nat.le_of_ble_eq_true rfl⟩) dKT_groups_6 rfl rfl (Nat.le_of_ble_eq_true rfl) ⟨Nat.le_of_ble_eq_true rfl, Nat.le_of_ble_eq_true rfl⟩ (Nat.le_of_ble_eq_true rfl) (Nat.le_of_ble_eq_true rfl) (fun _ _ h => h) (fun st1 h => ?_)
  refine jr_aload_n (q := 0) C dKT_groups_9 rfl rfl ?_
  refine jr_getf (k := 2) C dKT_groups_10 inw_KT (rfl : kC[0]? = _) (by decide) (List.mem_cons_of_mem _ tm1_134) rfl kA_0 rfl ?_
  refine jr_iload_n (q := 1) C dKT_groups_13 rfl rfl ?_
  refine jr_callVi (As := [.int l1]) (rest := []) C (c_Ex_countGroups h) (cwV 1 C.2.2.2.2.1 (tg_V tm2_217 tm2_218 tm2_219 tm1_3 tm2_220) rfl rfl rfl ⟨rfl, by decide, by decide, by decide⟩ ⟨Nat.le_of_ble_eq_true rfl, Nat.le_of_ble_eq_true rfl⟩) dKT_groups_14 (rfl : kC[1]? = _) kA_1 rfl rfl (Nat.le_of_ble_eq_true rfl) ⟨Nat.le_of_ble_eq_true rfl, Nat.le_of_ble_eq_true rfl⟩ (fun r4 st3 h => ?_)
  exact jr_retXi C hr hlocks dKT_groups_17 (Nat.le_of_ble_eq_true rfl) (Nat.le_of_ble_eq_true rfl) h rfl
def wp_KT_nearest (K F : Nat) (st : jS) (l1 : Int32) (l2 : Int32) (post : Int32 → jS → Prop) (xp : String → jS → Prop) : Prop :=
  wp_KT_needExample K F st l1 (fun st1 => ((0 ≤ l2 → wp_Ex_neighbour K F st1 l1 l2 (fun r4 st3 => post r4 st3)) ∧ (¬ 0 ≤ l2 → xp "java/lang/IllegalArgumentException" st1))) xp
set_option maxRecDepth 100000 in
set_option maxHeartbeats 4000000 in
theorem c_KT_nearest (hl0 : l.stackTraces = false) {st : jS} {l1 : Int32} {l2 : Int32} {post : Int32 → jS → Prop} {xp : String → jS → Prop} (h : wp_KT_nearest K F st l1 l2 post xp) : jr_Ti l yKT_nearest wKT_nearest ({ frames := 7, cells := 2, slots := 12, locals := 111 }) [.ref (ad 0), .int l1, .int l2] D kC (kT cI cII cL cJ) (kW cI cII cL ad K F fr st) (kS sa) (kW cI cII cL ad K F fr) post xp 2 12 := by
  refine jr_ofXi (cc := bKT_nearest) (nL := 3) (lv := [(0, .ref (ad 0)), (1, .int l1), (2, .int l2)]) (by decide) rfl (Nat.le_of_ble_eq_true rfl) rfl (fun p e s m args below meth c A C hr hlocks hnt hZ hs9 => ?_)
  unfold wp_KT_nearest at h
  refine jr_aload_n (q := 0) C dKT_nearest_0 rfl rfl ?_
  refine jr_iload_n (q := 1) C dKT_nearest_1 rfl rfl ?_
  refine jr_callXVvi (As := [.int l1]) (rest := []) C hlocks hnt hZ hs9 (c_KT_needExample hl0 h) (cwV 1 C.2.2.2.2.1 (tg_V tm2_63 tm2_65 tp_5 tm1_1 tm2_66) rfl rfl rfl ⟨rfl, by decide, by decide, by decide⟩ ⟨Nat.le_of_ble_eq_true rfl, Nat.le_of_ble_eq_true rfl⟩) dKT_nearest_2 (rfl : kC[0]? = _) kA_0 rfl rfl (Nat.le_of_ble_eq_true rfl) ⟨Nat.le_of_ble_eq_true rfl, Nat.le_of_ble_eq_true rfl⟩ (Nat.le_of_ble_eq_true rfl) (Nat.le_of_ble_eq_true rfl) (fun _ _ h => h) (fun st1 h => ?_)
  refine jr_iload_n (q := 2) C dKT_nearest_5 rfl rfl ?_
  refine jr_if_ge (tgt := 19) C dKT_nearest_6 (by decide) (fun z => ?_) (fun z => ?_)
  · have h := h.1 z
    refine jr_aload_n (q := 0) C dKT_nearest_19 rfl rfl ?_
    refine jr_getf (k := 2) C dKT_nearest_20 inw_KT (rfl : kC[0]? = _) (by decide) (List.mem_cons_of_mem _ tm1_134) rfl kA_0 rfl ?_
    refine jr_iload_n (q := 1) C dKT_nearest_23 rfl rfl ?_
    refine jr_iload_n (q := 2) C dKT_nearest_24 rfl rfl ?_
    refine jr_callVi (As := [.int l1, .int l2]) (rest := []) C (c_Ex_neighbour h) (cwV 2 C.2.2.2.2.1 (tg_V tm2_234 tm2_235 tm2_236 tm1_3 tm2_237) rfl rfl rfl ⟨rfl, by decide, by decide, by decide⟩ ⟨Nat.le_of_ble_eq_true rfl, Nat.le_of_ble_eq_true rfl⟩) dKT_nearest_25 (rfl : kC[1]? = _) kA_1 rfl rfl (Nat.le_of_ble_eq_true rfl) ⟨Nat.le_of_ble_eq_true rfl, Nat.le_of_ble_eq_true rfl⟩ (fun r4 st3 h => ?_)
    exact jr_retXi C hr hlocks dKT_nearest_28 (Nat.le_of_ble_eq_true rfl) (Nat.le_of_ble_eq_true rfl) h rfl
  · have h := h.2 z
    exact jr_throwS C hl0 hZ hlocks hnt (ks_6 hs9) tf_139 tfn (C.2.2.2.2.1 _ (List.mem_cons_of_mem _ tm2_76)) (C.2.2.2.2.1 _ (List.mem_cons_of_mem _ tm1_13)) (th_139_143 C) (tx_139_143) dKT_nearest_9 dKT_nearest_12 dKT_nearest_13 dKT_nearest_15 dKT_nearest_18 (Nat.le_of_ble_eq_true rfl) (Nat.le_of_ble_eq_true rfl) (Nat.le_of_ble_eq_true rfl) (Nat.le_of_ble_eq_true rfl) (Nat.le_of_ble_eq_true rfl) (Nat.le_of_ble_eq_true rfl) h rfl
def wp_KT_distance (K F : Nat) (st : jS) (l1 : Int32) (l2 : Int32) (post : Int32 → jS → Prop) (xp : String → jS → Prop) : Prop :=
  wp_KT_needExample K F st l1 (fun st1 => wp_KT_needExample K F st1 l2 (fun st3 => wp_Ex_squares K F st3 l1 l2 (fun r6 st5 => post r6 st5)) xp) xp
set_option maxRecDepth 100000 in
set_option maxHeartbeats 4000000 in
theorem c_KT_distance (hl0 : l.stackTraces = false) {st : jS} {l1 : Int32} {l2 : Int32} {post : Int32 → jS → Prop} {xp : String → jS → Prop} (h : wp_KT_distance K F st l1 l2 post xp) : jr_Ti l yKT_distance wKT_distance ({ frames := 7, cells := 2, slots := 12, locals := 111 }) [.ref (ad 0), .int l1, .int l2] D kC (kT cI cII cL cJ) (kW cI cII cL ad K F fr st) (kS sa) (kW cI cII cL ad K F fr) post xp 2 12 := by
  refine jr_ofXi (cc := bKT_distance) (nL := 3) (lv := [(0, .ref (ad 0)), (1, .int l1), (2, .int l2)]) (by decide) rfl (Nat.le_of_ble_eq_true rfl) rfl (fun p e s m args below meth c A C hr hlocks hnt hZ hs9 => ?_)
  unfold wp_KT_distance at h
  refine jr_aload_n (q := 0) C dKT_distance_0 rfl rfl ?_
  refine jr_iload_n (q := 1) C dKT_distance_1 rfl rfl ?_
  refine jr_callXVvi (As := [.int l1]) (rest := []) C hlocks hnt hZ hs9 (c_KT_needExample hl0 h) (cwV 1 C.2.2.2.2.1 (tg_V tm2_63 tm2_65 tp_5 tm1_1 tm2_66) rfl rfl rfl ⟨rfl, by decide, by decide, by decide⟩ ⟨Nat.le_of_ble_eq_true rfl, Nat.le_of_ble_eq_true rfl⟩) dKT_distance_2 (rfl : kC[0]? = _) kA_0 rfl rfl (Nat.le_of_ble_eq_true rfl) ⟨Nat.le_of_ble_eq_true rfl, Nat.le_of_ble_eq_true rfl⟩ (Nat.le_of_ble_eq_true rfl) (Nat.le_of_ble_eq_true rfl) (fun _ _ h => h) (fun st1 h => ?_)
  refine jr_aload_n (q := 0) C dKT_distance_5 rfl rfl ?_
  refine jr_iload_n (q := 2) C dKT_distance_6 rfl rfl ?_
  refine jr_callXVvi (As := [.int l2]) (rest := []) C hlocks hnt hZ hs9 (c_KT_needExample hl0 h) (cwV 1 C.2.2.2.2.1 (tg_V tm2_63 tm2_65 tp_5 tm1_1 tm2_66) rfl rfl rfl ⟨rfl, by decide, by decide, by decide⟩ ⟨Nat.le_of_ble_eq_true rfl, Nat.le_of_ble_eq_true rfl⟩) dKT_distance_7 (rfl : kC[0]? = _) kA_0 rfl rfl (Nat.le_of_ble_eq_true rfl) ⟨Nat.le_of_ble_eq_true rfl, Nat.le_of_ble_eq_true rfl⟩ (Nat.le_of_ble_eq_true rfl) (Nat.le_of_ble_eq_true rfl) (fun _ _ h => h) (fun st3 h => ?_)
  refine jr_aload_n (q := 0) C dKT_distance_10 rfl rfl ?_
  refine jr_getf (k := 2) C dKT_distance_11 inw_KT (rfl : kC[0]? = _) (by decide) (List.mem_cons_of_mem _ tm1_134) rfl kA_0 rfl ?_
  refine jr_iload_n (q := 1) C dKT_distance_14 rfl rfl ?_
  refine jr_iload_n (q := 2) C dKT_distance_15 rfl rfl ?_
  refine jr_callVi (As := [.int l1, .int l2]) (rest := []) C (c_Ex_squares h) (cwV 2 C.2.2.2.2.1 (tg_V tm3_20 tm3_7 tm3_8 tm1_3 tm3_9) rfl rfl rfl ⟨rfl, by decide, by decide, by decide⟩ ⟨Nat.le_of_ble_eq_true rfl, Nat.le_of_ble_eq_true rfl⟩) dKT_distance_16 (rfl : kC[1]? = _) kA_1 rfl rfl (Nat.le_of_ble_eq_true rfl) ⟨Nat.le_of_ble_eq_true rfl, Nat.le_of_ble_eq_true rfl⟩ (fun r6 st5 h => ?_)
  exact jr_retXi C hr hlocks dKT_distance_19 (Nat.le_of_ble_eq_true rfl) (Nat.le_of_ble_eq_true rfl) h rfl
def wp_KT_needPlace (K F : Nat) (st : jS) (l0 : Int32) (l1 : Int32) (post : jS → Prop) (xp : String → jS → Prop) : Prop :=
  wp_KT_needWithin K F st l0 (-100 : Int32) (100 : Int32) (fun st1 => wp_KT_needWithin K F st1 l1 (-100 : Int32) (100 : Int32) (fun st3 => post st3) xp) xp
set_option maxRecDepth 100000 in
set_option maxHeartbeats 4000000 in
theorem c_KT_needPlace (hl0 : l.stackTraces = false) {st : jS} {l0 : Int32} {l1 : Int32} {post : jS → Prop} {xp : String → jS → Prop} (h : wp_KT_needPlace K F st l0 l1 post xp) : jr_Tv l yKT_needPlace wKT_needPlace ({ frames := 7, cells := 2, slots := 12, locals := 112 }) [.int l0, .int l1] D kC (kT cI cII cL cJ) (kW cI cII cL ad K F fr st) (kS sa) (kW cI cII cL ad K F fr) post xp 2 12 := by
  refine jr_ofXv (cc := bKT_needPlace) (nL := 2) (lv := [(0, .int l0), (1, .int l1)]) (by decide) rfl (Nat.le_of_ble_eq_true rfl) rfl (fun p e s m args below meth c A C hr hlocks hnt hZ hs9 => ?_)
  unfold wp_KT_needPlace at h
  refine jr_iload_n (q := 0) C dKT_needPlace_0 rfl rfl ?_
  refine jr_bipush (v := -100) C dKT_needPlace_1 (by decide) ?_
  refine jr_bipush (v := 100) C dKT_needPlace_3 (by decide) ?_
  refine jr_callXSvv (As := [.int l0, .int (-100 : Int32), .int (100 : Int32)]) (rest := []) C hlocks hnt hZ hs9 (c_KT_needWithin hl0 h) (va_cwS 3 C.2.2.2.2.1 (tg_S tm2_73 tm2_74 tm1_1 tm2_75) rfl rfl rfl ⟨by decide, by decide, by decide⟩ ⟨Nat.le_of_ble_eq_true rfl, Nat.le_of_ble_eq_true rfl⟩) dKT_needPlace_5 rfl rfl (Nat.le_of_ble_eq_true rfl) ⟨Nat.le_of_ble_eq_true rfl, Nat.le_of_ble_eq_true rfl⟩ (Nat.le_of_ble_eq_true rfl) (Nat.le_of_ble_eq_true rfl) (fun _ _ h => h) (fun st1 h => ?_)
  refine jr_iload_n (q := 1) C dKT_needPlace_8 rfl rfl ?_
  refine jr_bipush (v := -100) C dKT_needPlace_9 (by decide) ?_
  refine jr_bipush (v := 100) C dKT_needPlace_11 (by decide) ?_
  refine jr_callXSvv (As := [.int l1, .int (-100 : Int32), .int (100 : Int32)]) (rest := []) C hlocks hnt hZ hs9 (c_KT_needWithin hl0 h) (va_cwS 3 C.2.2.2.2.1 (tg_S tm2_73 tm2_74 tm1_1 tm2_75) rfl rfl rfl ⟨by decide, by decide, by decide⟩ ⟨Nat.le_of_ble_eq_true rfl, Nat.le_of_ble_eq_true rfl⟩) dKT_needPlace_13 rfl rfl (Nat.le_of_ble_eq_true rfl) ⟨Nat.le_of_ble_eq_true rfl, Nat.le_of_ble_eq_true rfl⟩ (Nat.le_of_ble_eq_true rfl) (Nat.le_of_ble_eq_true rfl) (fun _ _ h => h) (fun st3 h => ?_)
  exact jr_retXv C hr hlocks dKT_needPlace_16 (Nat.le_of_ble_eq_true rfl) (Nat.le_of_ble_eq_true rfl) h rfl
def wp_KT_haul (K F : Nat) (st : jS) (l1 : Int32) (l2 : Int32) (post : Int32 → jS → Prop) (xp : String → jS → Prop) : Prop :=
  wp_KT_needPlace K F st l1 l2 (fun st1 => (((st1 3 4) < (12 : Int32) → wp_Ha_add K F st1 l1 l2 (fun r4 st3 => post r4 st3)) ∧ (¬ (st1 3 4) < (12 : Int32) → xp "java/lang/IllegalStateException" st1))) xp
set_option maxRecDepth 100000 in
set_option maxHeartbeats 4000000 in
theorem c_KT_haul (hl0 : l.stackTraces = false) {st : jS} {l1 : Int32} {l2 : Int32} {post : Int32 → jS → Prop} {xp : String → jS → Prop} (h : wp_KT_haul K F st l1 l2 post xp) : jr_Ti l yKT_haul wKT_haul ({ frames := 8, cells := 3, slots := 18, locals := 133 }) [.ref (ad 0), .int l1, .int l2] D kC (kT cI cII cL cJ) (kW cI cII cL ad K F fr st) (kS sa) (kW cI cII cL ad K F fr) post xp 3 18 := by
  refine jr_ofXi (cc := bKT_haul) (nL := 3) (lv := [(0, .ref (ad 0)), (1, .int l1), (2, .int l2)]) (by decide) rfl (Nat.le_of_ble_eq_true rfl) rfl (fun p e s m args below meth c A C hr hlocks hnt hZ hs9 => ?_)
  unfold wp_KT_haul at h
  refine jr_iload_n (q := 1) C dKT_haul_0 rfl rfl ?_
  refine jr_iload_n (q := 2) C dKT_haul_1 rfl rfl ?_
  refine jr_callXSvi (As := [.int l1, .int l2]) (rest := []) C hlocks hnt hZ hs9 (c_KT_needPlace hl0 h) (va_cwS 2 C.2.2.2.2.1 (tg_S tm3_28 tm3_29 tm1_1 tm3_30) rfl rfl rfl ⟨by decide, by decide, by decide⟩ ⟨Nat.le_of_ble_eq_true rfl, Nat.le_of_ble_eq_true rfl⟩) dKT_haul_2 rfl rfl (Nat.le_of_ble_eq_true rfl) ⟨Nat.le_of_ble_eq_true rfl, Nat.le_of_ble_eq_true rfl⟩ (Nat.le_of_ble_eq_true rfl) (Nat.le_of_ble_eq_true rfl) (fun _ _ h => h) (fun st1 h => ?_)
  refine jr_aload_n (q := 0) C dKT_haul_5 rfl rfl ?_
  refine jr_getf (k := 4) C dKT_haul_6 inw_KT (rfl : kC[0]? = _) (by decide) (List.mem_cons_of_mem _ tm1_136) rfl kA_0 rfl ?_
  refine jr_getf (k := 4) C dKT_haul_9 inw_Ha (rfl : kC[3]? = _) (by decide) (List.mem_cons_of_mem _ tm1_102) rfl kA_3 rfl ?_
  refine jr_bipush (v := 12) C dKT_haul_12 (by decide) ?_
  refine jr_icmp_lt (tgt := 27) C dKT_haul_14 (by decide) (fun z => ?_) (fun z => ?_)
  · have h := h.1 z
    refine jr_aload_n (q := 0) C dKT_haul_27 rfl rfl ?_
    refine jr_getf (k := 4) C dKT_haul_28 inw_KT (rfl : kC[0]? = _) (by decide) (List.mem_cons_of_mem _ tm1_136) rfl kA_0 rfl ?_
    refine jr_iload_n (q := 1) C dKT_haul_31 rfl rfl ?_
    refine jr_iload_n (q := 2) C dKT_haul_32 rfl rfl ?_
    refine jr_callVi (As := [.int l1, .int l2]) (rest := []) C (c_Ha_add h) (cwV 2 C.2.2.2.2.1 (tg_V tm3_32 tm3_33 tm3_34 tm1_5 tm3_35) rfl rfl rfl ⟨rfl, by decide, by decide, by decide⟩ ⟨Nat.le_of_ble_eq_true rfl, Nat.le_of_ble_eq_true rfl⟩) dKT_haul_33 (rfl : kC[3]? = _) kA_3 rfl rfl (Nat.le_of_ble_eq_true rfl) ⟨Nat.le_of_ble_eq_true rfl, Nat.le_of_ble_eq_true rfl⟩ (fun r4 st3 h => ?_)
    exact jr_retXi C hr hlocks dKT_haul_36 (Nat.le_of_ble_eq_true rfl) (Nat.le_of_ble_eq_true rfl) h rfl
  · have h := h.2 z
    exact jr_throwS C hl0 hZ hlocks hnt (ks_7 hs9) tf_63 tfn (C.2.2.2.2.1 _ (List.mem_cons_of_mem _ tm2_35)) (C.2.2.2.2.1 _ (List.mem_cons_of_mem _ tm1_12)) (th_63_67 C) (tx_63_67) dKT_haul_17 dKT_haul_20 dKT_haul_21 dKT_haul_23 dKT_haul_26 (Nat.le_of_ble_eq_true rfl) (Nat.le_of_ble_eq_true rfl) (Nat.le_of_ble_eq_true rfl) (Nat.le_of_ble_eq_true rfl) (Nat.le_of_ble_eq_true rfl) (Nat.le_of_ble_eq_true rfl) h rfl
def wp_KT_needHaul (K F : Nat) (st : jS) (l1 : Int32) (post : jS → Prop) (xp : String → jS → Prop) : Prop :=
  ((l1 < 0 → xp "java/lang/IndexOutOfBoundsException" st) ∧ (¬ l1 < 0 → ((l1 < (st 3 4) → post st) ∧ (¬ l1 < (st 3 4) → xp "java/lang/IndexOutOfBoundsException" st))))
set_option maxRecDepth 100000 in
set_option maxHeartbeats 4000000 in
theorem c_KT_needHaul (hl0 : l.stackTraces = false) {st : jS} {l1 : Int32} {post : jS → Prop} {xp : String → jS → Prop} (h : wp_KT_needHaul K F st l1 post xp) : jr_Tv l yKT_needHaul wKT_needHaul ({ frames := 6, cells := 1, slots := 6, locals := 90 }) [.ref (ad 0), .int l1] D kC (kT cI cII cL cJ) (kW cI cII cL ad K F fr st) (kS sa) (kW cI cII cL ad K F fr) post xp 1 6 := by
  refine jr_ofXv (cc := bKT_needHaul) (nL := 2) (lv := [(0, .ref (ad 0)), (1, .int l1)]) (by decide) rfl (Nat.le_of_ble_eq_true rfl) rfl (fun p e s m args below meth c A C hr hlocks hnt hZ hs9 => ?_)
  unfold wp_KT_needHaul at h
  refine jr_iload_n (q := 1) C dKT_needHaul_0 rfl rfl ?_
  refine jr_if_lt (tgt := 15) C dKT_needHaul_1 (by decide) (fun z => ?_) (fun z => ?_)
  · have h := h.1 z
    exact jr_throwS C hl0 hZ hlocks hnt (ks_8 hs9) tf_186 tfn (C.2.2.2.2.1 _ (List.mem_cons_of_mem _ tm1_207)) (C.2.2.2.2.1 _ (List.mem_cons_of_mem _ tm1_11)) (th_186_190 C) (tx_186_190) dKT_needHaul_15 dKT_needHaul_18 dKT_needHaul_19 dKT_needHaul_21 dKT_needHaul_24 (Nat.le_of_ble_eq_true rfl) (Nat.le_of_ble_eq_true rfl) (Nat.le_of_ble_eq_true rfl) (Nat.le_of_ble_eq_true rfl) (Nat.le_of_ble_eq_true rfl) (Nat.le_of_ble_eq_true rfl) h rfl
  · have h := h.2 z
    refine jr_iload_n (q := 1) C dKT_needHaul_4 rfl rfl ?_
    refine jr_aload_n (q := 0) C dKT_needHaul_5 rfl rfl ?_
    refine jr_getf (k := 4) C dKT_needHaul_6 inw_KT (rfl : kC[0]? = _) (by decide) (List.mem_cons_of_mem _ tm1_136) rfl kA_0 rfl ?_
    refine jr_getf (k := 4) C dKT_needHaul_9 inw_Ha (rfl : kC[3]? = _) (by decide) (List.mem_cons_of_mem _ tm1_102) rfl kA_3 rfl ?_
    refine jr_icmp_lt (tgt := 25) C dKT_needHaul_12 (by decide) (fun z => ?_) (fun z => ?_)
    · have h := h.1 z
      exact jr_retXv C hr hlocks dKT_needHaul_25 (Nat.le_of_ble_eq_true rfl) (Nat.le_of_ble_eq_true rfl) h rfl
    · have h := h.2 z
      exact jr_throwS C hl0 hZ hlocks hnt (ks_8 hs9) tf_186 tfn (C.2.2.2.2.1 _ (List.mem_cons_of_mem _ tm1_207)) (C.2.2.2.2.1 _ (List.mem_cons_of_mem _ tm1_11)) (th_186_190 C) (tx_186_190) dKT_needHaul_15 dKT_needHaul_18 dKT_needHaul_19 dKT_needHaul_21 dKT_needHaul_24 (Nat.le_of_ble_eq_true rfl) (Nat.le_of_ble_eq_true rfl) (Nat.le_of_ble_eq_true rfl) (Nat.le_of_ble_eq_true rfl) (Nat.le_of_ble_eq_true rfl) (Nat.le_of_ble_eq_true rfl) h rfl
def wp_KT_grams (K F : Nat) (st : jS) (l1 : Int32) (l2 : Int32) (l3 : Int32) (post : Int32 → jS → Prop) (xp : String → jS → Prop) : Prop :=
  wp_KT_needHaul K F st l1 (fun st1 => wp_KT_needKind K F st1 l2 (fun st3 => wp_KT_needWithin K F st3 l3 (0 : Int32) (1000 : Int32) (fun st5 => vp_in l1 12 ∧ vp_in l2 K ∧ vp_in l1 12 ∧ vp_in l2 K ∧ post (st5 (39 + (Int32.toNatClampNeg l1)) (Int32.toNatClampNeg l2)) (jq st5 (39 + (Int32.toNatClampNeg l1)) (Int32.toNatClampNeg l2) l3)) xp) xp) xp
set_option maxRecDepth 100000 in
set_option maxHeartbeats 4000000 in
theorem c_KT_grams (hl0 : l.stackTraces = false) {st : jS} {l1 : Int32} {l2 : Int32} {l3 : Int32} {post : Int32 → jS → Prop} {xp : String → jS → Prop} (h : wp_KT_grams K F st l1 l2 l3 post xp) : jr_Ti l yKT_grams wKT_grams ({ frames := 7, cells := 3, slots := 18, locals := 112 }) [.ref (ad 0), .int l1, .int l2, .int l3] D kC (kT cI cII cL cJ) (kW cI cII cL ad K F fr st) (kS sa) (kW cI cII cL ad K F fr) post xp 3 18 := by
  refine jr_ofXi (cc := bKT_grams) (nL := 5) (lv := [(0, .ref (ad 0)), (1, .int l1), (2, .int l2), (3, .int l3)]) (by decide) rfl (Nat.le_of_ble_eq_true rfl) rfl (fun p e s m args below meth c A C hr hlocks hnt hZ hs9 => ?_)
  unfold wp_KT_grams at h
  refine jr_aload_n (q := 0) C dKT_grams_0 rfl rfl ?_
  refine jr_iload_n (q := 1) C dKT_grams_1 rfl rfl ?_
  refine jr_callXVvi (As := [.int l1]) (rest := []) C hlocks hnt hZ hs9 (c_KT_needHaul hl0 h) (cwV 1 C.2.2.2.2.1 (tg_V tm3_43 tm3_45 tp_12 tm1_1 tm3_46) rfl rfl rfl ⟨rfl, by decide, by decide, by decide⟩ ⟨Nat.le_of_ble_eq_true rfl, Nat.le_of_ble_eq_true rfl⟩) dKT_grams_2 (rfl : kC[0]? = _) kA_0 rfl rfl (Nat.le_of_ble_eq_true rfl) ⟨Nat.le_of_ble_eq_true rfl, Nat.le_of_ble_eq_true rfl⟩ (Nat.le_of_ble_eq_true rfl) (Nat.le_of_ble_eq_true rfl) (fun _ _ h => h) (fun st1 h => ?_)
  refine jr_aload_n (q := 0) C dKT_grams_5 rfl rfl ?_
  refine jr_iload_n (q := 2) C dKT_grams_6 rfl rfl ?_
  refine jr_callXVvi (As := [.int l2]) (rest := []) C hlocks hnt hZ hs9 (c_KT_needKind hl0 h) (cwV 1 C.2.2.2.2.1 (tg_V tm1_203 tm1_205 tp_3 tm1_1 tm1_206) rfl rfl rfl ⟨rfl, by decide, by decide, by decide⟩ ⟨Nat.le_of_ble_eq_true rfl, Nat.le_of_ble_eq_true rfl⟩) dKT_grams_7 (rfl : kC[0]? = _) kA_0 rfl rfl (Nat.le_of_ble_eq_true rfl) ⟨Nat.le_of_ble_eq_true rfl, Nat.le_of_ble_eq_true rfl⟩ (Nat.le_of_ble_eq_true rfl) (Nat.le_of_ble_eq_true rfl) (fun _ _ h => h) (fun st3 h => ?_)
  refine jr_iload_n (q := 3) C dKT_grams_10 rfl rfl ?_
  refine jr_iconst (v := 0) C dKT_grams_11 (by decide) ?_
  refine jr_sipush (v := 1000) C dKT_grams_12 (by decide) ?_
  refine jr_callXSvi (As := [.int l3, .int (0 : Int32), .int (1000 : Int32)]) (rest := []) C hlocks hnt hZ hs9 (c_KT_needWithin hl0 h) (va_cwS 3 C.2.2.2.2.1 (tg_S tm2_73 tm2_74 tm1_1 tm2_75) rfl rfl rfl ⟨by decide, by decide, by decide⟩ ⟨Nat.le_of_ble_eq_true rfl, Nat.le_of_ble_eq_true rfl⟩) dKT_grams_15 rfl rfl (Nat.le_of_ble_eq_true rfl) ⟨Nat.le_of_ble_eq_true rfl, Nat.le_of_ble_eq_true rfl⟩ (Nat.le_of_ble_eq_true rfl) (Nat.le_of_ble_eq_true rfl) (fun _ _ h => h) (fun st5 h => ?_)
  refine jr_aload_n (q := 0) C dKT_grams_18 rfl rfl ?_
  refine jr_getf (k := 4) C dKT_grams_19 inw_KT (rfl : kC[0]? = _) (by decide) (List.mem_cons_of_mem _ tm1_136) rfl kA_0 rfl ?_
  refine jr_getf (k := 3) C dKT_grams_22 inw_Ha (rfl : kC[3]? = _) (by decide) (List.mem_cons_of_mem _ tm1_100) rfl kA_3 rfl ?_
  refine jr_iload_n (q := 1) C dKT_grams_25 rfl rfl ?_
  obtain ⟨h7, h⟩ := h
  refine jr_alda (t0 := 1) C dKT_grams_26 kA_14 rfl h7 (kE_cat h7) ?_
  refine jr_iload_n (q := 2) C dKT_grams_27 rfl rfl ?_
  obtain ⟨h8, h⟩ := h
  refine jr_iald (t0 := 0) C dKT_grams_28 (kA_rowcat h7) rfl h8 ?_
  refine jr_istore (lv' := [(4, .int (st5 (39 + (Int32.toNatClampNeg l1)) (Int32.toNatClampNeg l2))), (0, .ref (ad 0)), (1, .int l1), (2, .int l2), (3, .int l3)]) C dKT_grams_29 (by decide) rfl ?_
  refine jr_aload_n (q := 1) C dKT_grams_31 rfl rfl ?_
  refine jr_getf (k := 4) C dKT_grams_32 inw_KT (rfl : kC[0]? = _) (by decide) (List.mem_cons_of_mem _ tm1_136) rfl kA_0 rfl ?_
  refine jr_getf (k := 3) C dKT_grams_35 inw_Ha (rfl : kC[3]? = _) (by decide) (List.mem_cons_of_mem _ tm1_100) rfl kA_3 rfl ?_
  refine jr_iload_n (q := 2) C dKT_grams_38 rfl rfl ?_
  obtain ⟨h9, h⟩ := h
  refine jr_alda (t0 := 1) C dKT_grams_39 kA_14 rfl h9 (kE_cat h9) ?_
  refine jr_iload_n (q := 3) C dKT_grams_40 rfl rfl ?_
  refine jr_iload_n (q := 4) C dKT_grams_41 rfl rfl ?_
  obtain ⟨h10, h⟩ := h
  refine jr_iast (t0 := 0) C dKT_grams_42 (kA_rowcat h9) rfl h10 ?_
  refine jr_ws (ws' := kW cI cII cL ad K F fr (jq st5 (39 + (Int32.toNatClampNeg l1)) (Int32.toNatClampNeg l2) l3)) (kP_rowcat h9) ?_
  refine jr_iload (q := 0) C dKT_grams_43 rfl ?_
  exact jr_retXi C hr hlocks dKT_grams_45 (Nat.le_of_ble_eq_true rfl) (Nat.le_of_ble_eq_true rfl) h rfl
def wp_KT_share (K F : Nat) (st : jS) (l1 : Int32) (l2 : Int32) (l3 : Int32) (l4 : Int32) (post : Int64 → jS → Prop) (xp : String → jS → Prop) : Prop :=
  wp_KT_needKind K F st l3 (fun st1 => wp_KT_needPart K F st1 l4 (fun st3 => wp_KT_needPlace K F st3 l1 l2 (fun st5 => wp_Ha_sharePart K F st5 l1 l2 l3 l4 (fun r8 st7 => post r8 st7)) xp) xp) xp
set_option maxRecDepth 100000 in
set_option maxHeartbeats 4000000 in
theorem c_KT_share (hl0 : l.stackTraces = false) {st : jS} {l1 : Int32} {l2 : Int32} {l3 : Int32} {l4 : Int32} {post : Int64 → jS → Prop} {xp : String → jS → Prop} (h : wp_KT_share K F st l1 l2 l3 l4 post xp) : jr_Tl l yKT_share wKT_share ({ frames := 8, cells := 4, slots := 24, locals := 133 }) [.ref (ad 0), .int l1, .int l2, .int l3, .int l4] D kC (kT cI cII cL cJ) (kW cI cII cL ad K F fr st) (kS sa) (kW cI cII cL ad K F fr) post xp 4 24 := by
  refine jr_ofXl (cc := bKT_share) (nL := 5) (lv := [(0, .ref (ad 0)), (1, .int l1), (2, .int l2), (3, .int l3), (4, .int l4)]) (by decide) rfl (Nat.le_of_ble_eq_true rfl) rfl (fun p e s m args below meth c A C hr hlocks hnt hZ hs9 => ?_)
  unfold wp_KT_share at h
  refine jr_aload_n (q := 0) C dKT_share_0 rfl rfl ?_
  refine jr_iload_n (q := 3) C dKT_share_1 rfl rfl ?_
  refine jr_callXVvl (As := [.int l3]) (rest := []) C hlocks hnt hZ hs9 (c_KT_needKind hl0 h) (cwV 1 C.2.2.2.2.1 (tg_V tm1_203 tm1_205 tp_3 tm1_1 tm1_206) rfl rfl rfl ⟨rfl, by decide, by decide, by decide⟩ ⟨Nat.le_of_ble_eq_true rfl, Nat.le_of_ble_eq_true rfl⟩) dKT_share_2 (rfl : kC[0]? = _) kA_0 rfl rfl (Nat.le_of_ble_eq_true rfl) ⟨Nat.le_of_ble_eq_true rfl, Nat.le_of_ble_eq_true rfl⟩ (Nat.le_of_ble_eq_true rfl) (Nat.le_of_ble_eq_true rfl) (fun _ _ h => h) (fun st1 h => ?_)
  refine jr_iload (q := 4) C dKT_share_5 rfl ?_
  refine jr_callXSvl (As := [.int l4]) (rest := []) C hlocks hnt hZ hs9 (c_KT_needPart hl0 h) (va_cwS 1 C.2.2.2.2.1 (tg_S tm2_162 tm2_163 tm1_1 tm2_164) rfl rfl rfl ⟨by decide, by decide, by decide⟩ ⟨Nat.le_of_ble_eq_true rfl, Nat.le_of_ble_eq_true rfl⟩) dKT_share_7 rfl rfl (Nat.le_of_ble_eq_true rfl) ⟨Nat.le_of_ble_eq_true rfl, Nat.le_of_ble_eq_true rfl⟩ (Nat.le_of_ble_eq_true rfl) (Nat.le_of_ble_eq_true rfl) (fun _ _ h => h) (fun st3 h => ?_)
  refine jr_iload_n (q := 1) C dKT_share_10 rfl rfl ?_
  refine jr_iload_n (q := 2) C dKT_share_11 rfl rfl ?_
  refine jr_callXSvl (As := [.int l1, .int l2]) (rest := []) C hlocks hnt hZ hs9 (c_KT_needPlace hl0 h) (va_cwS 2 C.2.2.2.2.1 (tg_S tm3_28 tm3_29 tm1_1 tm3_30) rfl rfl rfl ⟨by decide, by decide, by decide⟩ ⟨Nat.le_of_ble_eq_true rfl, Nat.le_of_ble_eq_true rfl⟩) dKT_share_12 rfl rfl (Nat.le_of_ble_eq_true rfl) ⟨Nat.le_of_ble_eq_true rfl, Nat.le_of_ble_eq_true rfl⟩ (Nat.le_of_ble_eq_true rfl) (Nat.le_of_ble_eq_true rfl) (fun _ _ h => h) (fun st5 h => ?_)
  refine jr_aload_n (q := 0) C dKT_share_15 rfl rfl ?_
  refine jr_getf (k := 4) C dKT_share_16 inw_KT (rfl : kC[0]? = _) (by decide) (List.mem_cons_of_mem _ tm1_136) rfl kA_0 rfl ?_
  refine jr_iload_n (q := 1) C dKT_share_19 rfl rfl ?_
  refine jr_iload_n (q := 2) C dKT_share_20 rfl rfl ?_
  refine jr_iload_n (q := 3) C dKT_share_21 rfl rfl ?_
  refine jr_iload (q := 4) C dKT_share_22 rfl ?_
  refine jr_callVl (As := [.int l1, .int l2, .int l3, .int l4]) (rest := []) C (c_Ha_sharePart h) (cwV 4 C.2.2.2.2.1 (tg_V tm3_55 tm3_56 tm3_57 tm1_5 tm3_58) rfl rfl rfl ⟨rfl, by decide, by decide, by decide⟩ ⟨Nat.le_of_ble_eq_true rfl, Nat.le_of_ble_eq_true rfl⟩) dKT_share_24 (rfl : kC[3]? = _) kA_3 rfl rfl (Nat.le_of_ble_eq_true rfl) ⟨Nat.le_of_ble_eq_true rfl, Nat.le_of_ble_eq_true rfl⟩ (fun r8 st7 h => ?_)
  exact jr_retXl C hr hlocks dKT_share_27 (Nat.le_of_ble_eq_true rfl) (Nat.le_of_ble_eq_true rfl) h rfl
def wp_KT_law (K F : Nat) (st : jS) (l1 : Int32) (l2 : Int32) (l3 : Int32) (post : Int32 → jS → Prop) (xp : String → jS → Prop) : Prop :=
  wp_KT_needKind K F st l1 (fun st1 => wp_KT_needWithin K F st1 l2 (1 : Int32) (1000 : Int32) (fun st3 => wp_KT_needWithin K F st3 l3 (0 : Int32) (2000 : Int32) (fun st5 => vp_in l1 K ∧ wp_La_lastLength K F (Int32.toNatClampNeg l1) st5 (fun r9 st8 => ((r9 < l2 → (((st8 (51 + 3 * (Int32.toNatClampNeg l1)) 2) < (6 : Int32) → wp_La_add K F (Int32.toNatClampNeg l1) st8 l2 l3 (fun r11 st10 => post r11 st10)) ∧ (¬ (st8 (51 + 3 * (Int32.toNatClampNeg l1)) 2) < (6 : Int32) → xp "java/lang/IllegalStateException" st8))) ∧ (¬ r9 < l2 → xp "java/lang/IllegalArgumentException" st8)))) xp) xp) xp
set_option maxRecDepth 100000 in
set_option maxHeartbeats 4000000 in
theorem c_KT_law (hl0 : l.stackTraces = false) {st : jS} {l1 : Int32} {l2 : Int32} {l3 : Int32} {post : Int32 → jS → Prop} {xp : String → jS → Prop} (h : wp_KT_law K F st l1 l2 l3 post xp) : jr_Ti l yKT_law wKT_law ({ frames := 7, cells := 5, slots := 30, locals := 112 }) [.ref (ad 0), .int l1, .int l2, .int l3] D kC (kT cI cII cL cJ) (kW cI cII cL ad K F fr st) (kS sa) (kW cI cII cL ad K F fr) post xp 5 30 := by
  refine jr_ofXi (cc := bKT_law) (nL := 5) (lv := [(0, .ref (ad 0)), (1, .int l1), (2, .int l2), (3, .int l3)]) (by decide) rfl (Nat.le_of_ble_eq_true rfl) rfl (fun p e s m args below meth c A C hr hlocks hnt hZ hs9 => ?_)
  unfold wp_KT_law at h
  refine jr_aload_n (q := 0) C dKT_law_0 rfl rfl ?_
  refine jr_iload_n (q := 1) C dKT_law_1 rfl rfl ?_
  refine jr_callXVvi (As := [.int l1]) (rest := []) C hlocks hnt hZ hs9 (c_KT_needKind hl0 h) (cwV 1 C.2.2.2.2.1 (tg_V tm1_203 tm1_205 tp_3 tm1_1 tm1_206) rfl rfl rfl ⟨rfl, by decide, by decide, by decide⟩ ⟨Nat.le_of_ble_eq_true rfl, Nat.le_of_ble_eq_true rfl⟩) dKT_law_2 (rfl : kC[0]? = _) kA_0 rfl rfl (Nat.le_of_ble_eq_true rfl) ⟨Nat.le_of_ble_eq_true rfl, Nat.le_of_ble_eq_true rfl⟩ (Nat.le_of_ble_eq_true rfl) (Nat.le_of_ble_eq_true rfl) (fun _ _ h => h) (fun st1 h => ?_)
  refine jr_iload_n (q := 2) C dKT_law_5 rfl rfl ?_
  refine jr_iconst (v := 1) C dKT_law_6 (by decide) ?_
  refine jr_sipush (v := 1000) C dKT_law_7 (by decide) ?_
  refine jr_callXSvi (As := [.int l2, .int (1 : Int32), .int (1000 : Int32)]) (rest := []) C hlocks hnt hZ hs9 (c_KT_needWithin hl0 h) (va_cwS 3 C.2.2.2.2.1 (tg_S tm2_73 tm2_74 tm1_1 tm2_75) rfl rfl rfl ⟨by decide, by decide, by decide⟩ ⟨Nat.le_of_ble_eq_true rfl, Nat.le_of_ble_eq_true rfl⟩) dKT_law_10 rfl rfl (Nat.le_of_ble_eq_true rfl) ⟨Nat.le_of_ble_eq_true rfl, Nat.le_of_ble_eq_true rfl⟩ (Nat.le_of_ble_eq_true rfl) (Nat.le_of_ble_eq_true rfl) (fun _ _ h => h) (fun st3 h => ?_)
  refine jr_iload_n (q := 3) C dKT_law_13 rfl rfl ?_
  refine jr_iconst (v := 0) C dKT_law_14 (by decide) ?_
  refine jr_sipush (v := 2000) C dKT_law_15 (by decide) ?_
  refine jr_callXSvi (As := [.int l3, .int (0 : Int32), .int (2000 : Int32)]) (rest := []) C hlocks hnt hZ hs9 (c_KT_needWithin hl0 h) (va_cwS 3 C.2.2.2.2.1 (tg_S tm2_73 tm2_74 tm1_1 tm2_75) rfl rfl rfl ⟨by decide, by decide, by decide⟩ ⟨Nat.le_of_ble_eq_true rfl, Nat.le_of_ble_eq_true rfl⟩) dKT_law_18 rfl rfl (Nat.le_of_ble_eq_true rfl) ⟨Nat.le_of_ble_eq_true rfl, Nat.le_of_ble_eq_true rfl⟩ (Nat.le_of_ble_eq_true rfl) (Nat.le_of_ble_eq_true rfl) (fun _ _ h => h) (fun st5 h => ?_)
  refine jr_aload_n (q := 0) C dKT_law_21 rfl rfl ?_
  refine jr_getf (k := 5) C dKT_law_22 inw_KT (rfl : kC[0]? = _) (by decide) (List.mem_cons_of_mem _ tm1_137) rfl kA_0 rfl ?_
  refine jr_iload_n (q := 1) C dKT_law_25 rfl rfl ?_
  obtain ⟨h7, h⟩ := h
  refine jr_aldo (t0 := 2) C dKT_law_26 kA_4 rfl h7 (kE_law h7) ?_
  refine jr_astore (lv' := [(4, .ref (ad (51 + 3 * (Int32.toNatClampNeg l1)))), (0, .ref (ad 0)), (1, .int l1), (2, .int l2), (3, .int l3)]) C dKT_law_27 (by decide) rfl ?_
  refine jr_iload_n (q := 3) C dKT_law_29 rfl rfl ?_
  refine jr_aload (q := 0) C dKT_law_30 rfl ?_
  refine jr_callVi (As := []) (rest := [.int l2]) C (c_La_lastLength (Int32.toNatClampNeg l1) (vi_lt h7) h) (cwV 0 C.2.2.2.2.1 (tg_V tm3_80 tm3_81 tm3_82 tm1_6 tm3_83) rfl rfl rfl ⟨rfl, by decide, by decide, by decide⟩ ⟨Nat.le_of_ble_eq_true rfl, Nat.le_of_ble_eq_true rfl⟩) dKT_law_32 (rfl : kC[4]? = _) (kA_law (vi_lt h7)) rfl rfl (Nat.le_of_ble_eq_true rfl) ⟨Nat.le_of_ble_eq_true rfl, Nat.le_of_ble_eq_true rfl⟩ (fun r9 st8 h => ?_)
  refine jr_icmp_gt (tgt := 48) C dKT_law_35 (by decide) (fun z => ?_) (fun z => ?_)
  · have h := h.1 z
    refine jr_aload (q := 0) C dKT_law_48 rfl ?_
    refine jr_getf (k := 2) C dKT_law_50 inw_La (rfl : kC[4]? = _) (by decide) (List.mem_cons_of_mem _ tm1_124) rfl (kA_law (vi_lt h7)) rfl ?_
    refine jr_bipush (v := 6) C dKT_law_53 (by decide) ?_
    refine jr_icmp_lt (tgt := 68) C dKT_law_55 (by decide) (fun z => ?_) (fun z => ?_)
    · have h := h.1 z
      refine jr_aload (q := 0) C dKT_law_68 rfl ?_
      refine jr_iload_n (q := 3) C dKT_law_70 rfl rfl ?_
      refine jr_iload_n (q := 4) C dKT_law_71 rfl rfl ?_
      refine jr_callVi (As := [.int l2, .int l3]) (rest := []) C (c_La_add (Int32.toNatClampNeg l1) (vi_lt h7) h) (cwV 2 C.2.2.2.2.1 (tg_V tm3_86 tm3_87 tm3_88 tm1_6 tm3_89) rfl rfl rfl ⟨rfl, by decide, by decide, by decide⟩ ⟨Nat.le_of_ble_eq_true rfl, Nat.le_of_ble_eq_true rfl⟩) dKT_law_72 (rfl : kC[4]? = _) (kA_law (vi_lt h7)) rfl rfl (Nat.le_of_ble_eq_true rfl) ⟨Nat.le_of_ble_eq_true rfl, Nat.le_of_ble_eq_true rfl⟩ (fun r11 st10 h => ?_)
      exact jr_retXi C hr hlocks dKT_law_75 (Nat.le_of_ble_eq_true rfl) (Nat.le_of_ble_eq_true rfl) h rfl
    · have h := h.2 z
      exact jr_throwS C hl0 hZ hlocks hnt (ks_10 hs9) tf_63 tfn (C.2.2.2.2.1 _ (List.mem_cons_of_mem _ tm2_35)) (C.2.2.2.2.1 _ (List.mem_cons_of_mem _ tm1_12)) (th_63_67 C) (tx_63_67) dKT_law_58 dKT_law_61 dKT_law_62 dKT_law_64 dKT_law_67 (Nat.le_of_ble_eq_true rfl) (Nat.le_of_ble_eq_true rfl) (Nat.le_of_ble_eq_true rfl) (Nat.le_of_ble_eq_true rfl) (Nat.le_of_ble_eq_true rfl) (Nat.le_of_ble_eq_true rfl) h rfl
  · have h := h.2 z
    exact jr_throwS C hl0 hZ hlocks hnt (ks_9 hs9) tf_139 tfn (C.2.2.2.2.1 _ (List.mem_cons_of_mem _ tm2_76)) (C.2.2.2.2.1 _ (List.mem_cons_of_mem _ tm1_13)) (th_139_143 C) (tx_139_143) dKT_law_38 dKT_law_41 dKT_law_42 dKT_law_44 dKT_law_47 (Nat.le_of_ble_eq_true rfl) (Nat.le_of_ble_eq_true rfl) (Nat.le_of_ble_eq_true rfl) (Nat.le_of_ble_eq_true rfl) (Nat.le_of_ble_eq_true rfl) (Nat.le_of_ble_eq_true rfl) h rfl
def wp_KT_strength (K F : Nat) (st : jS) (l1 : Int32) (l2 : Int32) (post : Int32 → jS → Prop) (xp : String → jS → Prop) : Prop :=
  wp_KT_needKind K F st l1 (fun st1 => vp_in l1 K ∧ wp_La_strengthAt K F (Int32.toNatClampNeg l1) st1 l2 (fun r5 st4 => post r5 st4)) xp
set_option maxRecDepth 100000 in
set_option maxHeartbeats 4000000 in
theorem c_KT_strength (hl0 : l.stackTraces = false) {st : jS} {l1 : Int32} {l2 : Int32} {post : Int32 → jS → Prop} {xp : String → jS → Prop} (h : wp_KT_strength K F st l1 l2 post xp) : jr_Ti l yKT_strength wKT_strength ({ frames := 7, cells := 1, slots := 6, locals := 111 }) [.ref (ad 0), .int l1, .int l2] D kC (kT cI cII cL cJ) (kW cI cII cL ad K F fr st) (kS sa) (kW cI cII cL ad K F fr) post xp 1 6 := by
  refine jr_ofXi (cc := bKT_strength) (nL := 3) (lv := [(0, .ref (ad 0)), (1, .int l1), (2, .int l2)]) (by decide) rfl (Nat.le_of_ble_eq_true rfl) rfl (fun p e s m args below meth c A C hr hlocks hnt hZ hs9 => ?_)
  unfold wp_KT_strength at h
  refine jr_aload_n (q := 0) C dKT_strength_0 rfl rfl ?_
  refine jr_iload_n (q := 1) C dKT_strength_1 rfl rfl ?_
  refine jr_callXVvi (As := [.int l1]) (rest := []) C hlocks hnt hZ hs9 (c_KT_needKind hl0 h) (cwV 1 C.2.2.2.2.1 (tg_V tm1_203 tm1_205 tp_3 tm1_1 tm1_206) rfl rfl rfl ⟨rfl, by decide, by decide, by decide⟩ ⟨Nat.le_of_ble_eq_true rfl, Nat.le_of_ble_eq_true rfl⟩) dKT_strength_2 (rfl : kC[0]? = _) kA_0 rfl rfl (Nat.le_of_ble_eq_true rfl) ⟨Nat.le_of_ble_eq_true rfl, Nat.le_of_ble_eq_true rfl⟩ (Nat.le_of_ble_eq_true rfl) (Nat.le_of_ble_eq_true rfl) (fun _ _ h => h) (fun st1 h => ?_)
  refine jr_aload_n (q := 0) C dKT_strength_5 rfl rfl ?_
  refine jr_getf (k := 5) C dKT_strength_6 inw_KT (rfl : kC[0]? = _) (by decide) (List.mem_cons_of_mem _ tm1_137) rfl kA_0 rfl ?_
  refine jr_iload_n (q := 1) C dKT_strength_9 rfl rfl ?_
  obtain ⟨h3, h⟩ := h
  refine jr_aldo (t0 := 2) C dKT_strength_10 kA_4 rfl h3 (kE_law h3) ?_
  refine jr_iload_n (q := 2) C dKT_strength_11 rfl rfl ?_
  refine jr_callVi (As := [.int l2]) (rest := []) C (c_La_strengthAt (Int32.toNatClampNeg l1) (vi_lt h3) h) (cwV 1 C.2.2.2.2.1 (tg_V tm3_97 tm3_98 tm3_99 tm1_6 tm3_100) rfl rfl rfl ⟨rfl, by decide, by decide, by decide⟩ ⟨Nat.le_of_ble_eq_true rfl, Nat.le_of_ble_eq_true rfl⟩) dKT_strength_12 (rfl : kC[4]? = _) (kA_law (vi_lt h3)) rfl rfl (Nat.le_of_ble_eq_true rfl) ⟨Nat.le_of_ble_eq_true rfl, Nat.le_of_ble_eq_true rfl⟩ (fun r5 st4 h => ?_)
  exact jr_retXi C hr hlocks dKT_strength_15 (Nat.le_of_ble_eq_true rfl) (Nat.le_of_ble_eq_true rfl) h rfl
def wp_KT_length (K F : Nat) (st : jS) (l1 : Int32) (l2 : Int32) (post : Int32 → jS → Prop) (xp : String → jS → Prop) : Prop :=
  wp_KT_needKind K F st l1 (fun st1 => vp_in l1 K ∧ wp_La_leastLength K F (Int32.toNatClampNeg l1) st1 l2 (fun r5 st4 => post r5 st4)) xp
set_option maxRecDepth 100000 in
set_option maxHeartbeats 4000000 in
theorem c_KT_length (hl0 : l.stackTraces = false) {st : jS} {l1 : Int32} {l2 : Int32} {post : Int32 → jS → Prop} {xp : String → jS → Prop} (h : wp_KT_length K F st l1 l2 post xp) : jr_Ti l yKT_length wKT_length ({ frames := 7, cells := 1, slots := 6, locals := 111 }) [.ref (ad 0), .int l1, .int l2] D kC (kT cI cII cL cJ) (kW cI cII cL ad K F fr st) (kS sa) (kW cI cII cL ad K F fr) post xp 1 6 := by
  refine jr_ofXi (cc := bKT_length) (nL := 3) (lv := [(0, .ref (ad 0)), (1, .int l1), (2, .int l2)]) (by decide) rfl (Nat.le_of_ble_eq_true rfl) rfl (fun p e s m args below meth c A C hr hlocks hnt hZ hs9 => ?_)
  unfold wp_KT_length at h
  refine jr_aload_n (q := 0) C dKT_length_0 rfl rfl ?_
  refine jr_iload_n (q := 1) C dKT_length_1 rfl rfl ?_
  refine jr_callXVvi (As := [.int l1]) (rest := []) C hlocks hnt hZ hs9 (c_KT_needKind hl0 h) (cwV 1 C.2.2.2.2.1 (tg_V tm1_203 tm1_205 tp_3 tm1_1 tm1_206) rfl rfl rfl ⟨rfl, by decide, by decide, by decide⟩ ⟨Nat.le_of_ble_eq_true rfl, Nat.le_of_ble_eq_true rfl⟩) dKT_length_2 (rfl : kC[0]? = _) kA_0 rfl rfl (Nat.le_of_ble_eq_true rfl) ⟨Nat.le_of_ble_eq_true rfl, Nat.le_of_ble_eq_true rfl⟩ (Nat.le_of_ble_eq_true rfl) (Nat.le_of_ble_eq_true rfl) (fun _ _ h => h) (fun st1 h => ?_)
  refine jr_aload_n (q := 0) C dKT_length_5 rfl rfl ?_
  refine jr_getf (k := 5) C dKT_length_6 inw_KT (rfl : kC[0]? = _) (by decide) (List.mem_cons_of_mem _ tm1_137) rfl kA_0 rfl ?_
  refine jr_iload_n (q := 1) C dKT_length_9 rfl rfl ?_
  obtain ⟨h3, h⟩ := h
  refine jr_aldo (t0 := 2) C dKT_length_10 kA_4 rfl h3 (kE_law h3) ?_
  refine jr_iload_n (q := 2) C dKT_length_11 rfl rfl ?_
  refine jr_callVi (As := [.int l2]) (rest := []) C (c_La_leastLength (Int32.toNatClampNeg l1) (vi_lt h3) h) (cwV 1 C.2.2.2.2.1 (tg_V tm3_115 tm3_116 tm3_117 tm1_6 tm3_118) rfl rfl rfl ⟨rfl, by decide, by decide, by decide⟩ ⟨Nat.le_of_ble_eq_true rfl, Nat.le_of_ble_eq_true rfl⟩) dKT_length_12 (rfl : kC[4]? = _) (kA_law (vi_lt h3)) rfl rfl (Nat.le_of_ble_eq_true rfl) ⟨Nat.le_of_ble_eq_true rfl, Nat.le_of_ble_eq_true rfl⟩ (fun r5 st4 h => ?_)
  exact jr_retXi C hr hlocks dKT_length_15 (Nat.le_of_ble_eq_true rfl) (Nat.le_of_ble_eq_true rfl) h rfl
def wp_KT_count (K F : Nat) (st : jS) (l1 : Int32) (post : Int32 → jS → Prop) : Prop :=
  ((l1 = (0 : Int32) → post (st 1 5) st) ∧ (l1 = (1 : Int32) → wp_Ex_countTaught K F st (-1 : Int32) (fun r2 st1 => post ((st 1 5) - r2) st1)) ∧ (l1 = (2 : Int32) → post (st 3 4) st) ∧ (l1 = (3 : Int32) → post (st 0 0) st) ∧ (l1 = (4 : Int32) → post (st 0 1) st) ∧ (¬ l1 = (0 : Int32) → ¬ l1 = (1 : Int32) → ¬ l1 = (2 : Int32) → ¬ l1 = (3 : Int32) → ¬ l1 = (4 : Int32) → post (-1 : Int32) st))
set_option maxRecDepth 100000 in
set_option maxHeartbeats 4000000 in
theorem c_KT_count {st : jS} {l1 : Int32} {post : Int32 → jS → Prop} (h : wp_KT_count K F st l1 post) : jr_Mi l yKT_count wKT_count ({ frames := 1, cells := 0, slots := 0, locals := 23 }) [.ref (ad 0), .int l1] D kC (kT cI cII cL cJ) (kW cI cII cL ad K F fr st) (kW cI cII cL ad K F fr) post := by
  refine jr_ofi (cc := bKT_count) (nL := 2) (lv := [(0, .ref (ad 0)), (1, .int l1)]) (by decide) rfl (Nat.le_of_ble_eq_true rfl) rfl (fun p e s m args below meth c A C hr hlocks => ?_)
  unfold wp_KT_count at h
  refine jr_iload_n (q := 1) C dKT_count_0 rfl rfl ?_
  by_cases z0 : l1 = (0 : Int32)
  · have h := h.1 z0
    refine jr_tblIn (tgt := 36) C dKT_count_1 (by rw [z0]; decide) (by rw [z0]; decide) (by rw [z0]; rfl) (by decide) ?_
    refine jr_aload_n (q := 0) C dKT_count_36 rfl rfl ?_
    refine jr_getf (k := 2) C dKT_count_37 inw_KT (rfl : kC[0]? = _) (by decide) (List.mem_cons_of_mem _ tm1_134) rfl kA_0 rfl ?_
    refine jr_getf (k := 5) C dKT_count_40 inw_Ex (rfl : kC[1]? = _) (by decide) (List.mem_cons_of_mem _ tm1_47) rfl kA_1 rfl ?_
    exact jr_reti C hr hlocks dKT_count_43 h rfl
  by_cases z1 : l1 = (1 : Int32)
  · have h := h.2.1 z1
    refine jr_tblIn (tgt := 44) C dKT_count_1 (by rw [z1]; decide) (by rw [z1]; decide) (by rw [z1]; rfl) (by decide) ?_
    refine jr_aload_n (q := 0) C dKT_count_44 rfl rfl ?_
    refine jr_getf (k := 2) C dKT_count_45 inw_KT (rfl : kC[0]? = _) (by decide) (List.mem_cons_of_mem _ tm1_134) rfl kA_0 rfl ?_
    refine jr_getf (k := 5) C dKT_count_48 inw_Ex (rfl : kC[1]? = _) (by decide) (List.mem_cons_of_mem _ tm1_47) rfl kA_1 rfl ?_
    refine jr_aload_n (q := 0) C dKT_count_51 rfl rfl ?_
    refine jr_getf (k := 2) C dKT_count_52 inw_KT (rfl : kC[0]? = _) (by decide) (List.mem_cons_of_mem _ tm1_134) rfl kA_0 rfl ?_
    refine jr_iconst (v := -1) C dKT_count_55 (by decide) ?_
    refine jr_callVi (As := [.int (-1 : Int32)]) (rest := [.int (st 1 5)]) C (c_Ex_countTaught h) (cwV 1 C.2.2.2.2.1 (tg_V tm1_183 tm1_184 tm1_185 tm1_3 tm1_186) rfl rfl rfl ⟨rfl, by decide, by decide, by decide⟩ ⟨Nat.le_of_ble_eq_true rfl, Nat.le_of_ble_eq_true rfl⟩) dKT_count_56 (rfl : kC[1]? = _) kA_1 rfl rfl (Nat.le_of_ble_eq_true rfl) ⟨Nat.le_of_ble_eq_true rfl, Nat.le_of_ble_eq_true rfl⟩ (fun r2 st1 h => ?_)
    refine jr_isub C dKT_count_59 ?_
    exact jr_reti C hr hlocks dKT_count_60 h rfl
  by_cases z2 : l1 = (2 : Int32)
  · have h := h.2.2.1 z2
    refine jr_tblIn (tgt := 61) C dKT_count_1 (by rw [z2]; decide) (by rw [z2]; decide) (by rw [z2]; rfl) (by decide) ?_
    refine jr_aload_n (q := 0) C dKT_count_61 rfl rfl ?_
    refine jr_getf (k := 4) C dKT_count_62 inw_KT (rfl : kC[0]? = _) (by decide) (List.mem_cons_of_mem _ tm1_136) rfl kA_0 rfl ?_
    refine jr_getf (k := 4) C dKT_count_65 inw_Ha (rfl : kC[3]? = _) (by decide) (List.mem_cons_of_mem _ tm1_102) rfl kA_3 rfl ?_
    exact jr_reti C hr hlocks dKT_count_68 h rfl
  by_cases z3 : l1 = (3 : Int32)
  · have h := h.2.2.2.1 z3
    refine jr_tblIn (tgt := 69) C dKT_count_1 (by rw [z3]; decide) (by rw [z3]; decide) (by rw [z3]; rfl) (by decide) ?_
    refine jr_aload_n (q := 0) C dKT_count_69 rfl rfl ?_
    refine jr_getf (k := 0) C dKT_count_70 inw_KT (rfl : kC[0]? = _) (by decide) (List.mem_cons_of_mem _ tm1_132) rfl kA_0 rfl ?_
    exact jr_reti C hr hlocks dKT_count_73 h rfl
  by_cases z4 : l1 = (4 : Int32)
  · have h := h.2.2.2.2.1 z4
    refine jr_tblIn (tgt := 74) C dKT_count_1 (by rw [z4]; decide) (by rw [z4]; decide) (by rw [z4]; rfl) (by decide) ?_
    refine jr_aload_n (q := 0) C dKT_count_74 rfl rfl ?_
    refine jr_getf (k := 1) C dKT_count_75 inw_KT (rfl : kC[0]? = _) (by decide) (List.mem_cons_of_mem _ tm1_133) rfl kA_0 rfl ?_
    exact jr_reti C hr hlocks dKT_count_78 h rfl
  have h := h.2.2.2.2.2 z0 z1 z2 z3 z4
  refine jr_tblOut (tgt := 79) C dKT_count_1 (jr_sw5 z0 z1 z2 z3 z4) (by decide) ?_
  refine jr_iconst (v := -1) C dKT_count_79 (by decide) ?_
  exact jr_reti C hr hlocks dKT_count_80 h rfl
end KT
