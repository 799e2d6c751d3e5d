section LW
variable {l : Launch} {D : va_G} {cI cII cL cJ : ClassId} {ad sa : Nat → Nat} {ao K F : Nat} {fr : va_W}
def wp_Lw_example (K F : Nat) (st : jS) (f : Nat → Int64) (l1 : Int32) (post : Int32 → jS × (Nat → Int64) → Prop) : Prop :=
  wp_KT_example K F st l1 (fun r u => post 0 (u, vp_updL f (Int32.toNatClampNeg 0) r.toInt64)) (fun E u => (E = "java/lang/IndexOutOfBoundsException" ∧ post 1 (u, f)) ∨ (E = "java/lang/IllegalStateException" ∧ post 2 (u, f)))
set_option maxRecDepth 100000 in
set_option maxHeartbeats 4000000 in
theorem c_Lw_example (hl0 : l.stackTraces = false) {st : jS} {f : Nat → Int64} {l1 : Int32} {post : Int32 → jS × (Nat → Int64) → Prop} (h : wp_Lw_example K F st f l1 post) : jr_Ni l yLw_example wLw_example ({ frames := 9, cells := 2, slots := 12, locals := 153 }) [.ref (ad 0), .int l1, .ref ao] D kC (kT cI cII cL cJ) (kW cI cII cL ad K F (oC cJ ao f :: fr) st) (kS sa) (oW cI cII cL cJ ad ao K F fr) post 2 12 := by
  refine jr_ofWi (cc := bLw_example) (nL := 4) (lv := [(0, .ref (ad 0)), (1, .int l1), (2, .ref ao)]) (by decide) rfl (Nat.le_of_ble_eq_true rfl) rfl (fun p e s m args below meth c A C hr hlocks htb hZ hs9 hnc => ?_)
  unfold wp_Lw_example at h
  refine jr_aload_n (q := 2) C dLw_example_0 rfl rfl ?_
  refine jr_iconst (v := 0) C dLw_example_1 (by decide) ?_
  refine jr_aload_n (q := 0) C dLw_example_2 rfl rfl ?_
  refine jr_iload_n (q := 1) C dLw_example_3 rfl rfl ?_
  refine jr_callCi (wf := kW cI cII cL ad K F (oC cJ ao f :: fr)) (As := [.int l1]) (rest := [.int 0, .ref ao]) C hZ hs9 (c_KT_example hl0 h) (cwV 1 C.2.2.2.2.1 (tg_V tm1_195 tm1_196 tm1_197 tm1_1 tm1_198) rfl rfl rfl ⟨rfl, by decide, by decide, by decide⟩ ⟨Nat.le_of_ble_eq_true rfl, Nat.le_of_ble_eq_true rfl⟩) dLw_example_4 (rfl : kC[0]? = _) kA_0 rfl rfl (Nat.le_of_ble_eq_true rfl) ⟨Nat.le_of_ble_eq_true rfl, Nat.le_of_ble_eq_true rfl⟩ (fun E u h => ?_) (fun r u h => ?_)
  · rcases h with ⟨rfl, h⟩ | ⟨rfl, h⟩
    · refine jr_catch (name := "java/lang/IndexOutOfBoundsException") C [] ⟨0, 9, 12, 13⟩ [⟨0, 9, 15, 15⟩] htb (fun z hz => nomatch hz) (by decide) (by decide) (List.mem_cons_of_mem _ tm1_193) (va_Nw.use rfl (C.2.2.2.2.2.2.2 _ (List.mem_of_getElem? (i := 0) rfl))) (fun q => ?_)
      refine jr_astore_n (lv' := [(3, .ref q), (0, .ref (ad 0)), (1, .int l1), (2, .ref ao)]) C dLw_example_12 rfl (by decide) rfl ?_
      refine jr_iconst (v := 1) C dLw_example_13 (by decide) ?_
      exact jr_retNi (u := (u, f)) C hr hlocks dLw_example_14 (Nat.le_of_ble_eq_true rfl) (Nat.le_of_ble_eq_true rfl) h rfl
    · refine jr_catch (name := "java/lang/IllegalStateException") C [⟨0, 9, 12, 13⟩] ⟨0, 9, 15, 15⟩ [] htb (fun z hz => by rcases List.mem_cons.mp hz with rfl | hz; exact ⟨by decide, "java/lang/IndexOutOfBoundsException", List.mem_cons_of_mem _ tm1_193, hnc ("java/lang/IllegalStateException", "java/lang/IndexOutOfBoundsException") (List.mem_of_getElem? (i := 3) rfl)⟩; exact nomatch hz) (by decide) (by decide) (List.mem_cons_of_mem _ tm1_194) (va_Nw.use rfl (C.2.2.2.2.2.2.2 _ (List.mem_of_getElem? (i := 7) rfl))) (fun q => ?_)
      refine jr_astore_n (lv' := [(3, .ref q), (0, .ref (ad 0)), (1, .int l1), (2, .ref ao)]) C dLw_example_15 rfl (by decide) rfl ?_
      refine jr_iconst (v := 2) C dLw_example_16 (by decide) ?_
      exact jr_retNi (u := (u, f)) C hr hlocks dLw_example_17 (Nat.le_of_ble_eq_true rfl) (Nat.le_of_ble_eq_true rfl) h rfl
  · refine jr_i2l C dLw_example_7 ?_
    refine jr_last (t0 := 3) C dLw_example_8 oA rfl vi_01 ?_
    refine jr_ws oP ?_
    refine jr_goto (tgt := 18) C dLw_example_9 (by decide) ?_
    refine jr_iconst (v := 0) C dLw_example_18 (by decide) ?_
    exact jr_retNi (u := (u, vp_updL f (Int32.toNatClampNeg 0) r.toInt64)) C hr hlocks dLw_example_19 (Nat.le_of_ble_eq_true rfl) (Nat.le_of_ble_eq_true rfl) h rfl
def wp_Lw_value (K F : Nat) (st : jS) (f : Nat → Int64) (l1 : Int32) (l2 : Int32) (l3 : Int32) (post : Int32 → jS × (Nat → Int64) → Prop) : Prop :=
  wp_KT_value K F st l1 l2 l3 (fun r u => ((r = 0 → post 0 (u, vp_updL f (Int32.toNatClampNeg 0) 0)) ∧ (¬ r = 0 → post 0 (u, vp_updL f (Int32.toNatClampNeg 0) 1)))) (fun E u => (E = "java/lang/IndexOutOfBoundsException" ∧ post 1 (u, f)) ∨ (E = "java/lang/IllegalArgumentException" ∧ post 2 (u, f)))
set_option maxRecDepth 100000 in
set_option maxHeartbeats 4000000 in
theorem c_Lw_value (hl0 : l.stackTraces = false) {st : jS} {f : Nat → Int64} {l1 : Int32} {l2 : Int32} {l3 : Int32} {post : Int32 → jS × (Nat → Int64) → Prop} (h : wp_Lw_value K F st f l1 l2 l3 post) : jr_Ni l yLw_value wLw_value ({ frames := 8, cells := 3, slots := 18, locals := 136 }) [.ref (ad 0), .int l1, .int l2, .int l3, .ref ao] D kC (kT cI cII cL cJ) (kW cI cII cL ad K F (oC cJ ao f :: fr) st) (kS sa) (oW cI cII cL cJ ad ao K F fr) post 3 18 := by
  refine jr_ofWi (cc := bLw_value) (nL := 6) (lv := [(0, .ref (ad 0)), (1, .int l1), (2, .int l2), (3, .int l3), (4, .ref ao)]) (by decide) rfl (Nat.le_of_ble_eq_true rfl) rfl (fun p e s m args below meth c A C hr hlocks htb hZ hs9 hnc => ?_)
  unfold wp_Lw_value at h
  refine jr_aload (q := 4) C dLw_value_0 rfl ?_
  refine jr_iconst (v := 0) C dLw_value_2 (by decide) ?_
  refine jr_aload_n (q := 0) C dLw_value_3 rfl rfl ?_
  refine jr_iload_n (q := 1) C dLw_value_4 rfl rfl ?_
  refine jr_iload_n (q := 2) C dLw_value_5 rfl rfl ?_
  refine jr_iload_n (q := 3) C dLw_value_6 rfl rfl ?_
  refine jr_callCi (wf := kW cI cII cL ad K F (oC cJ ao f :: fr)) (As := [.int l1, .int l2, .int l3]) (rest := [.int 0, .ref ao]) C hZ hs9 (c_KT_value hl0 h) (cwV 3 C.2.2.2.2.1 (tg_V tm2_59 tm2_60 tm2_61 tm1_1 tm2_62) rfl rfl rfl ⟨rfl, by decide, by decide, by decide⟩ ⟨Nat.le_of_ble_eq_true rfl, Nat.le_of_ble_eq_true rfl⟩) dLw_value_7 (rfl : kC[0]? = _) kA_0 rfl rfl (Nat.le_of_ble_eq_true rfl) ⟨Nat.le_of_ble_eq_true rfl, Nat.le_of_ble_eq_true rfl⟩ (fun E u h => ?_) (fun r u h => ?_)
  · rcases h with ⟨rfl, h⟩ | ⟨rfl, h⟩
    · refine jr_catch (name := "java/lang/IndexOutOfBoundsException") C [] ⟨0, 19, 22, 13⟩ [⟨0, 19, 26, 21⟩] htb (fun z hz => nomatch hz) (by decide) (by decide) (List.mem_cons_of_mem _ tm1_193) (va_Nw.use rfl (C.2.2.2.2.2.2.2 _ (List.mem_of_getElem? (i := 0) rfl))) (fun q => ?_)
      refine jr_astore (lv' := [(5, .ref q), (0, .ref (ad 0)), (1, .int l1), (2, .int l2), (3, .int l3), (4, .ref ao)]) C dLw_value_22 (by decide) rfl ?_
      refine jr_iconst (v := 1) C dLw_value_24 (by decide) ?_
      exact jr_retNi (u := (u, f)) C hr hlocks dLw_value_25 (Nat.le_of_ble_eq_true rfl) (Nat.le_of_ble_eq_true rfl) h rfl
    · refine jr_catch (name := "java/lang/IllegalArgumentException") C [⟨0, 19, 22, 13⟩] ⟨0, 19, 26, 21⟩ [] htb (fun z hz => by rcases List.mem_cons.mp hz with rfl | hz; exact ⟨by decide, "java/lang/IndexOutOfBoundsException", List.mem_cons_of_mem _ tm1_193, hnc ("java/lang/IllegalArgumentException", "java/lang/IndexOutOfBoundsException") (List.mem_of_getElem? (i := 1) rfl)⟩; exact nomatch hz) (by decide) (by decide) (List.mem_cons_of_mem _ tm2_58) (va_Nw.use rfl (C.2.2.2.2.2.2.2 _ (List.mem_of_getElem? (i := 8) rfl))) (fun q => ?_)
      refine jr_astore (lv' := [(5, .ref q), (0, .ref (ad 0)), (1, .int l1), (2, .int l2), (3, .int l3), (4, .ref ao)]) C dLw_value_26 (by decide) rfl ?_
      refine jr_iconst (v := 2) C dLw_value_28 (by decide) ?_
      exact jr_retNi (u := (u, f)) C hr hlocks dLw_value_29 (Nat.le_of_ble_eq_true rfl) (Nat.le_of_ble_eq_true rfl) h rfl
  · refine jr_if_eq (tgt := 17) C dLw_value_10 (by decide) (fun z => ?_) (fun z => ?_)
    · have h := h.1 z
      refine jr_lconst (v := 0) C dLw_value_17 (by decide) ?_
      refine jr_last (t0 := 3) C dLw_value_18 oA rfl vi_01 ?_
      refine jr_ws oP ?_
      refine jr_goto (tgt := 30) C dLw_value_19 (by decide) ?_
      refine jr_iconst (v := 0) C dLw_value_30 (by decide) ?_
      exact jr_retNi (u := (u, vp_updL f (Int32.toNatClampNeg 0) 0)) C hr hlocks dLw_value_31 (Nat.le_of_ble_eq_true rfl) (Nat.le_of_ble_eq_true rfl) h rfl
    · have h := h.2 z
      refine jr_lconst (v := 1) C dLw_value_13 (by decide) ?_
      refine jr_goto (tgt := 18) C dLw_value_14 (by decide) ?_
      refine jr_last (t0 := 3) C dLw_value_18 oA rfl vi_01 ?_
      refine jr_ws oP ?_
      refine jr_goto (tgt := 30) C dLw_value_19 (by decide) ?_
      refine jr_iconst (v := 0) C dLw_value_30 (by decide) ?_
      exact jr_retNi (u := (u, vp_updL f (Int32.toNatClampNeg 0) 1)) C hr hlocks dLw_value_31 (Nat.le_of_ble_eq_true rfl) (Nat.le_of_ble_eq_true rfl) h rfl
def wp_Lw_teach (K F : Nat) (st : jS) (f : Nat → Int64) (l1 : Int32) (l2 : Int32) (post : Int32 → jS × (Nat → Int64) → Prop) : Prop :=
  wp_KT_teach K F st l1 l2 (fun r u => post 0 (u, vp_updL f (Int32.toNatClampNeg 0) r.toInt64)) (fun E u => (E = "java/lang/IndexOutOfBoundsException" ∧ post 1 (u, f)))
set_option maxRecDepth 100000 in
set_option maxHeartbeats 4000000 in
theorem c_Lw_teach (hl0 : l.stackTraces = false) {st : jS} {f : Nat → Int64} {l1 : Int32} {l2 : Int32} {post : Int32 → jS × (Nat → Int64) → Prop} (h : wp_Lw_teach K F st f l1 l2 post) : jr_Ni l yLw_teach wLw_teach ({ frames := 9, cells := 2, slots := 12, locals := 155 }) [.ref (ad 0), .int l1, .int l2, .ref ao] D kC (kT cI cII cL cJ) (kW cI cII cL ad K F (oC cJ ao f :: fr) st) (kS sa) (oW cI cII cL cJ ad ao K F fr) post 2 12 := by
  refine jr_ofWi (cc := bLw_teach) (nL := 5) (lv := [(0, .ref (ad 0)), (1, .int l1), (2, .int l2), (3, .ref ao)]) (by decide) rfl (Nat.le_of_ble_eq_true rfl) rfl (fun p e s m args below meth c A C hr hlocks htb hZ hs9 hnc => ?_)
  unfold wp_Lw_teach at h
  refine jr_aload_n (q := 3) C dLw_teach_0 rfl rfl ?_
  refine jr_iconst (v := 0) C dLw_teach_1 (by decide) ?_
  refine jr_aload_n (q := 0) C dLw_teach_2 rfl rfl ?_
  refine jr_iload_n (q := 1) C dLw_teach_3 rfl rfl ?_
  refine jr_iload_n (q := 2) C dLw_teach_4 rfl rfl ?_
  refine jr_callCi (wf := kW cI cII cL ad K F (oC cJ ao f :: fr)) (As := [.int l1, .int l2]) (rest := [.int 0, .ref ao]) C hZ hs9 (c_KT_teach hl0 h) (cwV 2 C.2.2.2.2.1 (tg_V tm2_95 tm2_96 tm2_97 tm1_1 tm2_98) rfl rfl rfl ⟨rfl, by decide, by decide, by decide⟩ ⟨Nat.le_of_ble_eq_true rfl, Nat.le_of_ble_eq_true rfl⟩) dLw_teach_5 (rfl : kC[0]? = _) kA_0 rfl rfl (Nat.le_of_ble_eq_true rfl) ⟨Nat.le_of_ble_eq_true rfl, Nat.le_of_ble_eq_true rfl⟩ (fun E u h => ?_) (fun r u h => ?_)
  · rcases h with ⟨rfl, h⟩
    · refine jr_catch (name := "java/lang/IndexOutOfBoundsException") C [] ⟨0, 10, 13, 13⟩ [] htb (fun z hz => nomatch hz) (by decide) (by decide) (List.mem_cons_of_mem _ tm1_193) (va_Nw.use rfl (C.2.2.2.2.2.2.2 _ (List.mem_of_getElem? (i := 0) rfl))) (fun q => ?_)
      refine jr_astore (lv' := [(4, .ref q), (0, .ref (ad 0)), (1, .int l1), (2, .int l2), (3, .ref ao)]) C dLw_teach_13 (by decide) rfl ?_
      refine jr_iconst (v := 1) C dLw_teach_15 (by decide) ?_
      exact jr_retNi (u := (u, f)) C hr hlocks dLw_teach_16 (Nat.le_of_ble_eq_true rfl) (Nat.le_of_ble_eq_true rfl) h rfl
  · refine jr_i2l C dLw_teach_8 ?_
    refine jr_last (t0 := 3) C dLw_teach_9 oA rfl vi_01 ?_
    refine jr_ws oP ?_
    refine jr_goto (tgt := 17) C dLw_teach_10 (by decide) ?_
    refine jr_iconst (v := 0) C dLw_teach_17 (by decide) ?_
    exact jr_retNi (u := (u, vp_updL f (Int32.toNatClampNeg 0) r.toInt64)) C hr hlocks dLw_teach_18 (Nat.le_of_ble_eq_true rfl) (Nat.le_of_ble_eq_true rfl) h rfl
def wp_Lw_width (K F : Nat) (st : jS) (f : Nat → Int64) (l1 : Int32) (l2 : Int32) (post : Int32 → jS × (Nat → Int64) → Prop) : Prop :=
  wp_KT_width K F st l1 l2 (fun r u => post 0 (u, vp_updL f (Int32.toNatClampNeg 0) r.toInt64)) (fun E u => (E = "java/lang/IndexOutOfBoundsException" ∧ post 1 (u, f)) ∨ (E = "java/lang/IllegalArgumentException" ∧ post 2 (u, f)))
set_option maxRecDepth 100000 in
set_option maxHeartbeats 4000000 in
theorem c_Lw_width (hl0 : l.stackTraces = false) {st : jS} {f : Nat → Int64} {l1 : Int32} {l2 : Int32} {post : Int32 → jS × (Nat → Int64) → Prop} (h : wp_Lw_width K F st f l1 l2 post) : jr_Ni l yLw_width wLw_width ({ frames := 8, cells := 2, slots := 12, locals := 135 }) [.ref (ad 0), .int l1, .int l2, .ref ao] D kC (kT cI cII cL cJ) (kW cI cII cL ad K F (oC cJ ao f :: fr) st) (kS sa) (oW cI cII cL cJ ad ao K F fr) post 2 12 := by
  refine jr_ofWi (cc := bLw_width) (nL := 5) (lv := [(0, .ref (ad 0)), (1, .int l1), (2, .int l2), (3, .ref ao)]) (by decide) rfl (Nat.le_of_ble_eq_true rfl) rfl (fun p e s m args below meth c A C hr hlocks htb hZ hs9 hnc => ?_)
  unfold wp_Lw_width at h
  refine jr_aload_n (q := 3) C dLw_width_0 rfl rfl ?_
  refine jr_iconst (v := 0) C dLw_width_1 (by decide) ?_
  refine jr_aload_n (q := 0) C dLw_width_2 rfl rfl ?_
  refine jr_iload_n (q := 1) C dLw_width_3 rfl rfl ?_
  refine jr_iload_n (q := 2) C dLw_width_4 rfl rfl ?_
  refine jr_callCi (wf := kW cI cII cL ad K F (oC cJ ao f :: fr)) (As := [.int l1, .int l2]) (rest := [.int 0, .ref ao]) C hZ hs9 (c_KT_width hl0 h) (cwV 2 C.2.2.2.2.1 (tg_V tm2_102 tm2_103 tm2_104 tm1_1 tm2_105) rfl rfl rfl ⟨rfl, by decide, by decide, by decide⟩ ⟨Nat.le_of_ble_eq_true rfl, Nat.le_of_ble_eq_true rfl⟩) dLw_width_5 (rfl : kC[0]? = _) kA_0 rfl rfl (Nat.le_of_ble_eq_true rfl) ⟨Nat.le_of_ble_eq_true rfl, Nat.le_of_ble_eq_true rfl⟩ (fun E u h => ?_) (fun r u h => ?_)
  · rcases h with ⟨rfl, h⟩ | ⟨rfl, h⟩
    · refine jr_catch (name := "java/lang/IndexOutOfBoundsException") C [] ⟨0, 10, 13, 13⟩ [⟨0, 10, 17, 21⟩] htb (fun z hz => nomatch hz) (by decide) (by decide) (List.mem_cons_of_mem _ tm1_193) (va_Nw.use rfl (C.2.2.2.2.2.2.2 _ (List.mem_of_getElem? (i := 0) rfl))) (fun q => ?_)
      refine jr_astore (lv' := [(4, .ref q), (0, .ref (ad 0)), (1, .int l1), (2, .int l2), (3, .ref ao)]) C dLw_width_13 (by decide) rfl ?_
      refine jr_iconst (v := 1) C dLw_width_15 (by decide) ?_
      exact jr_retNi (u := (u, f)) C hr hlocks dLw_width_16 (Nat.le_of_ble_eq_true rfl) (Nat.le_of_ble_eq_true rfl) h rfl
    · refine jr_catch (name := "java/lang/IllegalArgumentException") C [⟨0, 10, 13, 13⟩] ⟨0, 10, 17, 21⟩ [] htb (fun z hz => by rcases List.mem_cons.mp hz with rfl | hz; exact ⟨by decide, "java/lang/IndexOutOfBoundsException", List.mem_cons_of_mem _ tm1_193, hnc ("java/lang/IllegalArgumentException", "java/lang/IndexOutOfBoundsException") (List.mem_of_getElem? (i := 1) rfl)⟩; exact nomatch hz) (by decide) (by decide) (List.mem_cons_of_mem _ tm2_58) (va_Nw.use rfl (C.2.2.2.2.2.2.2 _ (List.mem_of_getElem? (i := 8) rfl))) (fun q => ?_)
      refine jr_astore (lv' := [(4, .ref q), (0, .ref (ad 0)), (1, .int l1), (2, .int l2), (3, .ref ao)]) C dLw_width_17 (by decide) rfl ?_
      refine jr_iconst (v := 2) C dLw_width_19 (by decide) ?_
      exact jr_retNi (u := (u, f)) C hr hlocks dLw_width_20 (Nat.le_of_ble_eq_true rfl) (Nat.le_of_ble_eq_true rfl) h rfl
  · refine jr_i2l C dLw_width_8 ?_
    refine jr_last (t0 := 3) C dLw_width_9 oA rfl vi_01 ?_
    refine jr_ws oP ?_
    refine jr_goto (tgt := 21) C dLw_width_10 (by decide) ?_
    refine jr_iconst (v := 0) C dLw_width_21 (by decide) ?_
    exact jr_retNi (u := (u, vp_updL f (Int32.toNatClampNeg 0) r.toInt64)) C hr hlocks dLw_width_22 (Nat.le_of_ble_eq_true rfl) (Nat.le_of_ble_eq_true rfl) h rfl
def wp_Lw_cell (K F : Nat) (st : jS) (f : Nat → Int64) (l1 : Int32) (l2 : Int32) (post : Int32 → jS × (Nat → Int64) → Prop) : Prop :=
  wp_KT_cell K F st l1 l2 (fun r u => post 0 (u, vp_updL f (Int32.toNatClampNeg 0) r.toInt64)) (fun E u => (E = "java/lang/IndexOutOfBoundsException" ∧ post 1 (u, f)))
set_option maxRecDepth 100000 in
set_option maxHeartbeats 4000000 in
theorem c_Lw_cell (hl0 : l.stackTraces = false) {st : jS} {f : Nat → Int64} {l1 : Int32} {l2 : Int32} {post : Int32 → jS × (Nat → Int64) → Prop} (h : wp_Lw_cell K F st f l1 l2 post) : jr_Ni l yLw_cell wLw_cell ({ frames := 8, cells := 2, slots := 12, locals := 133 }) [.ref (ad 0), .int l1, .int l2, .ref ao] D kC (kT cI cII cL cJ) (kW cI cII cL ad K F (oC cJ ao f :: fr) st) (kS sa) (oW cI cII cL cJ ad ao K F fr) post 2 12 := by
  refine jr_ofWi (cc := bLw_cell) (nL := 5) (lv := [(0, .ref (ad 0)), (1, .int l1), (2, .int l2), (3, .ref ao)]) (by decide) rfl (Nat.le_of_ble_eq_true rfl) rfl (fun p e s m args below meth c A C hr hlocks htb hZ hs9 hnc => ?_)
  unfold wp_Lw_cell at h
  refine jr_aload_n (q := 3) C dLw_cell_0 rfl rfl ?_
  refine jr_iconst (v := 0) C dLw_cell_1 (by decide) ?_
  refine jr_aload_n (q := 0) C dLw_cell_2 rfl rfl ?_
  refine jr_iload_n (q := 1) C dLw_cell_3 rfl rfl ?_
  refine jr_iload_n (q := 2) C dLw_cell_4 rfl rfl ?_
  refine jr_callCi (wf := kW cI cII cL ad K F (oC cJ ao f :: fr)) (As := [.int l1, .int l2]) (rest := [.int 0, .ref ao]) C hZ hs9 (c_KT_cell hl0 h) (cwV 2 C.2.2.2.2.1 (tg_V tm2_109 tm2_110 tm2_111 tm1_1 tm2_112) rfl rfl rfl ⟨rfl, by decide, by decide, by decide⟩ ⟨Nat.le_of_ble_eq_true rfl, Nat.le_of_ble_eq_true rfl⟩) dLw_cell_5 (rfl : kC[0]? = _) kA_0 rfl rfl (Nat.le_of_ble_eq_true rfl) ⟨Nat.le_of_ble_eq_true rfl, Nat.le_of_ble_eq_true rfl⟩ (fun E u h => ?_) (fun r u h => ?_)
  · rcases h with ⟨rfl, h⟩
    · refine jr_catch (name := "java/lang/IndexOutOfBoundsException") C [] ⟨0, 10, 13, 13⟩ [] htb (fun z hz => nomatch hz) (by decide) (by decide) (List.mem_cons_of_mem _ tm1_193) (va_Nw.use rfl (C.2.2.2.2.2.2.2 _ (List.mem_of_getElem? (i := 0) rfl))) (fun q => ?_)
      refine jr_astore (lv' := [(4, .ref q), (0, .ref (ad 0)), (1, .int l1), (2, .int l2), (3, .ref ao)]) C dLw_cell_13 (by decide) rfl ?_
      refine jr_iconst (v := 1) C dLw_cell_15 (by decide) ?_
      exact jr_retNi (u := (u, f)) C hr hlocks dLw_cell_16 (Nat.le_of_ble_eq_true rfl) (Nat.le_of_ble_eq_true rfl) h rfl
  · refine jr_i2l C dLw_cell_8 ?_
    refine jr_last (t0 := 3) C dLw_cell_9 oA rfl vi_01 ?_
    refine jr_ws oP ?_
    refine jr_goto (tgt := 17) C dLw_cell_10 (by decide) ?_
    refine jr_iconst (v := 0) C dLw_cell_17 (by decide) ?_
    exact jr_retNi (u := (u, vp_updL f (Int32.toNatClampNeg 0) r.toInt64)) C hr hlocks dLw_cell_18 (Nat.le_of_ble_eq_true rfl) (Nat.le_of_ble_eq_true rfl) h rfl
def wp_Lw_votes (K F : Nat) (st : jS) (f : Nat → Int64) (l1 : Int32) (l2 : Int32) (post : Int32 → jS × (Nat → Int64) → Prop) : Prop :=
  wp_KT_votes K F st l1 l2 (fun r u => post 0 (u, vp_updL f (Int32.toNatClampNeg 0) r.toInt64)) (fun E u => (E = "java/lang/IndexOutOfBoundsException" ∧ post 1 (u, f)))
set_option maxRecDepth 100000 in
set_option maxHeartbeats 4000000 in
theorem c_Lw_votes (hl0 : l.stackTraces = false) {st : jS} {f : Nat → Int64} {l1 : Int32} {l2 : Int32} {post : Int32 → jS × (Nat → Int64) → Prop} (h : wp_Lw_votes K F st f l1 l2 post) : jr_Ni l yLw_votes wLw_votes ({ frames := 8, cells := 2, slots := 12, locals := 133 }) [.ref (ad 0), .int l1, .int l2, .ref ao] D kC (kT cI cII cL cJ) (kW cI cII cL ad K F (oC cJ ao f :: fr) st) (kS sa) (oW cI cII cL cJ ad ao K F fr) post 2 12 := by
  refine jr_ofWi (cc := bLw_votes) (nL := 5) (lv := [(0, .ref (ad 0)), (1, .int l1), (2, .int l2), (3, .ref ao)]) (by decide) rfl (Nat.le_of_ble_eq_true rfl) rfl (fun p e s m args below meth c A C hr hlocks htb hZ hs9 hnc => ?_)
  unfold wp_Lw_votes at h
  refine jr_aload_n (q := 3) C dLw_votes_0 rfl rfl ?_
  refine jr_iconst (v := 0) C dLw_votes_1 (by decide) ?_
  refine jr_aload_n (q := 0) C dLw_votes_2 rfl rfl ?_
  refine jr_iload_n (q := 1) C dLw_votes_3 rfl rfl ?_
  refine jr_iload_n (q := 2) C dLw_votes_4 rfl rfl ?_
  refine jr_callCi (wf := kW cI cII cL ad K F (oC cJ ao f :: fr)) (As := [.int l1, .int l2]) (rest := [.int 0, .ref ao]) C hZ hs9 (c_KT_votes hl0 h) (cwV 2 C.2.2.2.2.1 (tg_V tm2_117 tm2_118 tm2_119 tm1_1 tm2_120) rfl rfl rfl ⟨rfl, by decide, by decide, by decide⟩ ⟨Nat.le_of_ble_eq_true rfl, Nat.le_of_ble_eq_true rfl⟩) dLw_votes_5 (rfl : kC[0]? = _) kA_0 rfl rfl (Nat.le_of_ble_eq_true rfl) ⟨Nat.le_of_ble_eq_true rfl, Nat.le_of_ble_eq_true rfl⟩ (fun E u h => ?_) (fun r u h => ?_)
  · rcases h with ⟨rfl, h⟩
    · refine jr_catch (name := "java/lang/IndexOutOfBoundsException") C [] ⟨0, 10, 13, 13⟩ [] htb (fun z hz => nomatch hz) (by decide) (by decide) (List.mem_cons_of_mem _ tm1_193) (va_Nw.use rfl (C.2.2.2.2.2.2.2 _ (List.mem_of_getElem? (i := 0) rfl))) (fun q => ?_)
      refine jr_astore (lv' := [(4, .ref q), (0, .ref (ad 0)), (1, .int l1), (2, .int l2), (3, .ref ao)]) C dLw_votes_13 (by decide) rfl ?_
      refine jr_iconst (v := 1) C dLw_votes_15 (by decide) ?_
      exact jr_retNi (u := (u, f)) C hr hlocks dLw_votes_16 (Nat.le_of_ble_eq_true rfl) (Nat.le_of_ble_eq_true rfl) h rfl
  · refine jr_i2l C dLw_votes_8 ?_
    refine jr_last (t0 := 3) C dLw_votes_9 oA rfl vi_01 ?_
    refine jr_ws oP ?_
    refine jr_goto (tgt := 17) C dLw_votes_10 (by decide) ?_
    refine jr_iconst (v := 0) C dLw_votes_17 (by decide) ?_
    exact jr_retNi (u := (u, vp_updL f (Int32.toNatClampNeg 0) r.toInt64)) C hr hlocks dLw_votes_18 (Nat.le_of_ble_eq_true rfl) (Nat.le_of_ble_eq_true rfl) h rfl
def wp_Lw_tell (K F : Nat) (st : jS) (f : Nat → Int64) (l1 : Int32) (post : Int32 → jS × (Nat → Int64) → Prop) : Prop :=
  wp_KT_tell K F st l1 (fun r u => post 0 (u, vp_updL f (Int32.toNatClampNeg 0) r.toInt64)) (fun E u => (E = "java/lang/IndexOutOfBoundsException" ∧ post 1 (u, f)))
set_option maxRecDepth 100000 in
set_option maxHeartbeats 4000000 in
theorem c_Lw_tell (hl0 : l.stackTraces = false) {st : jS} {f : Nat → Int64} {l1 : Int32} {post : Int32 → jS × (Nat → Int64) → Prop} (h : wp_Lw_tell K F st f l1 post) : jr_Ni l yLw_tell wLw_tell ({ frames := 8, cells := 1, slots := 6, locals := 141 }) [.ref (ad 0), .int l1, .ref ao] D kC (kT cI cII cL cJ) (kW cI cII cL ad K F (oC cJ ao f :: fr) st) (kS sa) (oW cI cII cL cJ ad ao K F fr) post 1 6 := by
  refine jr_ofWi (cc := bLw_tell) (nL := 4) (lv := [(0, .ref (ad 0)), (1, .int l1), (2, .ref ao)]) (by decide) rfl (Nat.le_of_ble_eq_true rfl) rfl (fun p e s m args below meth c A C hr hlocks htb hZ hs9 hnc => ?_)
  unfold wp_Lw_tell at h
  refine jr_aload_n (q := 2) C dLw_tell_0 rfl rfl ?_
  refine jr_iconst (v := 0) C dLw_tell_1 (by decide) ?_
  refine jr_aload_n (q := 0) C dLw_tell_2 rfl rfl ?_
  refine jr_iload_n (q := 1) C dLw_tell_3 rfl rfl ?_
  refine jr_callCi (wf := kW cI cII cL ad K F (oC cJ ao f :: fr)) (As := [.int l1]) (rest := [.int 0, .ref ao]) C hZ hs9 (c_KT_tell hl0 h) (cwV 1 C.2.2.2.2.1 (tg_V tm2_128 tm2_129 tm2_130 tm1_1 tm2_131) rfl rfl rfl ⟨rfl, by decide, by decide, by decide⟩ ⟨Nat.le_of_ble_eq_true rfl, Nat.le_of_ble_eq_true rfl⟩) dLw_tell_4 (rfl : kC[0]? = _) kA_0 rfl rfl (Nat.le_of_ble_eq_true rfl) ⟨Nat.le_of_ble_eq_true rfl, Nat.le_of_ble_eq_true rfl⟩ (fun E u h => ?_) (fun r u h => ?_)
  · rcases h with ⟨rfl, h⟩
    · refine jr_catch (name := "java/lang/IndexOutOfBoundsException") C [] ⟨0, 9, 12, 13⟩ [] htb (fun z hz => nomatch hz) (by decide) (by decide) (List.mem_cons_of_mem _ tm1_193) (va_Nw.use rfl (C.2.2.2.2.2.2.2 _ (List.mem_of_getElem? (i := 0) rfl))) (fun q => ?_)
      refine jr_astore_n (lv' := [(3, .ref q), (0, .ref (ad 0)), (1, .int l1), (2, .ref ao)]) C dLw_tell_12 rfl (by decide) rfl ?_
      refine jr_iconst (v := 1) C dLw_tell_13 (by decide) ?_
      exact jr_retNi (u := (u, f)) C hr hlocks dLw_tell_14 (Nat.le_of_ble_eq_true rfl) (Nat.le_of_ble_eq_true rfl) h rfl
  · refine jr_i2l C dLw_tell_7 ?_
    refine jr_last (t0 := 3) C dLw_tell_8 oA rfl vi_01 ?_
    refine jr_ws oP ?_
    refine jr_goto (tgt := 15) C dLw_tell_9 (by decide) ?_
    refine jr_iconst (v := 0) C dLw_tell_15 (by decide) ?_
    exact jr_retNi (u := (u, vp_updL f (Int32.toNatClampNeg 0) r.toInt64)) C hr hlocks dLw_tell_16 (Nat.le_of_ble_eq_true rfl) (Nat.le_of_ble_eq_true rfl) h rfl
def wp_Lw_bound (K F : Nat) (st : jS) (f : Nat → Int64) (l1 : Int32) (post : Int32 → jS × (Nat → Int64) → Prop) : Prop :=
  wp_KT_bound K F st l1 (fun r u => post 0 (u, vp_updL f (Int32.toNatClampNeg 0) r.toInt64)) (fun E u => (E = "java/lang/IllegalArgumentException" ∧ post 1 (u, f)))
set_option maxRecDepth 100000 in
set_option maxHeartbeats 4000000 in
theorem c_Lw_bound (hl0 : l.stackTraces = false) {st : jS} {f : Nat → Int64} {l1 : Int32} {post : Int32 → jS × (Nat → Int64) → Prop} (h : wp_Lw_bound K F st f l1 post) : jr_Ni l yLw_bound wLw_bound ({ frames := 8, cells := 1, slots := 6, locals := 134 }) [.ref (ad 0), .int l1, .ref ao] D kC (kT cI cII cL cJ) (kW cI cII cL ad K F (oC cJ ao f :: fr) st) (kS sa) (oW cI cII cL cJ ad ao K F fr) post 1 6 := by
  refine jr_ofWi (cc := bLw_bound) (nL := 4) (lv := [(0, .ref (ad 0)), (1, .int l1), (2, .ref ao)]) (by decide) rfl (Nat.le_of_ble_eq_true rfl) rfl (fun p e s m args below meth c A C hr hlocks htb hZ hs9 hnc => ?_)
  unfold wp_Lw_bound at h
  refine jr_aload_n (q := 2) C dLw_bound_0 rfl rfl ?_
  refine jr_iconst (v := 0) C dLw_bound_1 (by decide) ?_
  refine jr_aload_n (q := 0) C dLw_bound_2 rfl rfl ?_
  refine jr_iload_n (q := 1) C dLw_bound_3 rfl rfl ?_
  refine jr_callCi (wf := kW cI cII cL ad K F (oC cJ ao f :: fr)) (As := [.int l1]) (rest := [.int 0, .ref ao]) C hZ hs9 (c_KT_bound hl0 h) (cwV 1 C.2.2.2.2.1 (tg_V tm2_136 tm2_137 tm2_138 tm1_1 tm2_139) rfl rfl rfl ⟨rfl, by decide, by decide, by decide⟩ ⟨Nat.le_of_ble_eq_true rfl, Nat.le_of_ble_eq_true rfl⟩) dLw_bound_4 (rfl : kC[0]? = _) kA_0 rfl rfl (Nat.le_of_ble_eq_true rfl) ⟨Nat.le_of_ble_eq_true rfl, Nat.le_of_ble_eq_true rfl⟩ (fun E u h => ?_) (fun r u h => ?_)
  · rcases h with ⟨rfl, h⟩
    · refine jr_catch (name := "java/lang/IllegalArgumentException") C [] ⟨0, 9, 12, 21⟩ [] htb (fun z hz => nomatch hz) (by decide) (by decide) (List.mem_cons_of_mem _ tm2_58) (va_Nw.use rfl (C.2.2.2.2.2.2.2 _ (List.mem_of_getElem? (i := 8) rfl))) (fun q => ?_)
      refine jr_astore_n (lv' := [(3, .ref q), (0, .ref (ad 0)), (1, .int l1), (2, .ref ao)]) C dLw_bound_12 rfl (by decide) rfl ?_
      refine jr_iconst (v := 1) C dLw_bound_13 (by decide) ?_
      exact jr_retNi (u := (u, f)) C hr hlocks dLw_bound_14 (Nat.le_of_ble_eq_true rfl) (Nat.le_of_ble_eq_true rfl) h rfl
  · refine jr_i2l C dLw_bound_7 ?_
    refine jr_last (t0 := 3) C dLw_bound_8 oA rfl vi_01 ?_
    refine jr_ws oP ?_
    refine jr_goto (tgt := 15) C dLw_bound_9 (by decide) ?_
    refine jr_iconst (v := 0) C dLw_bound_15 (by decide) ?_
    exact jr_retNi (u := (u, vp_updL f (Int32.toNatClampNeg 0) r.toInt64)) C hr hlocks dLw_bound_16 (Nat.le_of_ble_eq_true rfl) (Nat.le_of_ble_eq_true rfl) h rfl
def wp_Lw_prefer (K F : Nat) (st : jS) (f : Nat → Int64) (l1 : Int32) (post : Int32 → jS × (Nat → Int64) → Prop) : Prop :=
  wp_KT_prefer K F st l1 (fun r u => post 0 (u, vp_updL f (Int32.toNatClampNeg 0) r.toInt64)) (fun E u => (E = "java/lang/IndexOutOfBoundsException" ∧ post 1 (u, f)))
set_option maxRecDepth 100000 in
set_option maxHeartbeats 4000000 in
theorem c_Lw_prefer (hl0 : l.stackTraces = false) {st : jS} {f : Nat → Int64} {l1 : Int32} {post : Int32 → jS × (Nat → Int64) → Prop} (h : wp_Lw_prefer K F st f l1 post) : jr_Ni l yLw_prefer wLw_prefer ({ frames := 8, cells := 1, slots := 6, locals := 132 }) [.ref (ad 0), .int l1, .ref ao] D kC (kT cI cII cL cJ) (kW cI cII cL ad K F (oC cJ ao f :: fr) st) (kS sa) (oW cI cII cL cJ ad ao K F fr) post 1 6 := by
  refine jr_ofWi (cc := bLw_prefer) (nL := 4) (lv := [(0, .ref (ad 0)), (1, .int l1), (2, .ref ao)]) (by decide) rfl (Nat.le_of_ble_eq_true rfl) rfl (fun p e s m args below meth c A C hr hlocks htb hZ hs9 hnc => ?_)
  unfold wp_Lw_prefer at h
  refine jr_aload_n (q := 2) C dLw_prefer_0 rfl rfl ?_
  refine jr_iconst (v := 0) C dLw_prefer_1 (by decide) ?_
  refine jr_aload_n (q := 0) C dLw_prefer_2 rfl rfl ?_
  refine jr_iload_n (q := 1) C dLw_prefer_3 rfl rfl ?_
  refine jr_callCi (wf := kW cI cII cL ad K F (oC cJ ao f :: fr)) (As := [.int l1]) (rest := [.int 0, .ref ao]) C hZ hs9 (c_KT_prefer hl0 h) (cwV 1 C.2.2.2.2.1 (tg_V tm2_143 tm2_144 tm2_145 tm1_1 tm2_146) rfl rfl rfl ⟨rfl, by decide, by decide, by decide⟩ ⟨Nat.le_of_ble_eq_true rfl, Nat.le_of_ble_eq_true rfl⟩) dLw_prefer_4 (rfl : kC[0]? = _) kA_0 rfl rfl (Nat.le_of_ble_eq_true rfl) ⟨Nat.le_of_ble_eq_true rfl, Nat.le_of_ble_eq_true rfl⟩ (fun E u h => ?_) (fun r u h => ?_)
  · rcases h with ⟨rfl, h⟩
    · refine jr_catch (name := "java/lang/IndexOutOfBoundsException") C [] ⟨0, 9, 12, 13⟩ [] htb (fun z hz => nomatch hz) (by decide) (by decide) (List.mem_cons_of_mem _ tm1_193) (va_Nw.use rfl (C.2.2.2.2.2.2.2 _ (List.mem_of_getElem? (i := 0) rfl))) (fun q => ?_)
      refine jr_astore_n (lv' := [(3, .ref q), (0, .ref (ad 0)), (1, .int l1), (2, .ref ao)]) C dLw_prefer_12 rfl (by decide) rfl ?_
      refine jr_iconst (v := 1) C dLw_prefer_13 (by decide) ?_
      exact jr_retNi (u := (u, f)) C hr hlocks dLw_prefer_14 (Nat.le_of_ble_eq_true rfl) (Nat.le_of_ble_eq_true rfl) h rfl
  · refine jr_i2l C dLw_prefer_7 ?_
    refine jr_last (t0 := 3) C dLw_prefer_8 oA rfl vi_01 ?_
    refine jr_ws oP ?_
    refine jr_goto (tgt := 15) C dLw_prefer_9 (by decide) ?_
    refine jr_iconst (v := 0) C dLw_prefer_15 (by decide) ?_
    exact jr_retNi (u := (u, vp_updL f (Int32.toNatClampNeg 0) r.toInt64)) C hr hlocks dLw_prefer_16 (Nat.le_of_ble_eq_true rfl) (Nat.le_of_ble_eq_true rfl) h rfl
def wp_Lw_wrong (K F : Nat) (st : jS) (f : Nat → Int64) (l1 : Int32) (l2 : Int32) (l3 : Int32) (post : Int32 → jS × (Nat → Int64) → Prop) : Prop :=
  wp_KT_wrong K F st l1 l2 l3 (fun r u => post 0 (u, vp_updL f (Int32.toNatClampNeg 0) r.toInt64)) (fun E u => (E = "java/lang/IndexOutOfBoundsException" ∧ post 1 (u, f)))
set_option maxRecDepth 100000 in
set_option maxHeartbeats 4000000 in
theorem c_Lw_wrong (hl0 : l.stackTraces = false) {st : jS} {f : Nat → Int64} {l1 : Int32} {l2 : Int32} {l3 : Int32} {post : Int32 → jS × (Nat → Int64) → Prop} (h : wp_Lw_wrong K F st f l1 l2 l3 post) : jr_Ni l yLw_wrong wLw_wrong ({ frames := 9, cells := 3, slots := 18, locals := 167 }) [.ref (ad 0), .int l1, .int l2, .int l3, .ref ao] D kC (kT cI cII cL cJ) (kW cI cII cL ad K F (oC cJ ao f :: fr) st) (kS sa) (oW cI cII cL cJ ad ao K F fr) post 3 18 := by
  refine jr_ofWi (cc := bLw_wrong) (nL := 6) (lv := [(0, .ref (ad 0)), (1, .int l1), (2, .int l2), (3, .int l3), (4, .ref ao)]) (by decide) rfl (Nat.le_of_ble_eq_true rfl) rfl (fun p e s m args below meth c A C hr hlocks htb hZ hs9 hnc => ?_)
  unfold wp_Lw_wrong at h
  refine jr_aload (q := 4) C dLw_wrong_0 rfl ?_
  refine jr_iconst (v := 0) C dLw_wrong_2 (by decide) ?_
  refine jr_aload_n (q := 0) C dLw_wrong_3 rfl rfl ?_
  refine jr_iload_n (q := 1) C dLw_wrong_4 rfl rfl ?_
  refine jr_iload_n (q := 2) C dLw_wrong_5 rfl rfl ?_
  refine jr_iload_n (q := 3) C dLw_wrong_6 rfl rfl ?_
  refine jr_callCi (wf := kW cI cII cL ad K F (oC cJ ao f :: fr)) (As := [.int l1, .int l2, .int l3]) (rest := [.int 0, .ref ao]) C hZ hs9 (c_KT_wrong hl0 h) (cwV 3 C.2.2.2.2.1 (tg_V tm2_158 tm2_159 tm2_160 tm1_1 tm2_161) rfl rfl rfl ⟨rfl, by decide, by decide, by decide⟩ ⟨Nat.le_of_ble_eq_true rfl, Nat.le_of_ble_eq_true rfl⟩) dLw_wrong_7 (rfl : kC[0]? = _) kA_0 rfl rfl (Nat.le_of_ble_eq_true rfl) ⟨Nat.le_of_ble_eq_true rfl, Nat.le_of_ble_eq_true rfl⟩ (fun E u h => ?_) (fun r u h => ?_)
  · rcases h with ⟨rfl, h⟩
    · refine jr_catch (name := "java/lang/IndexOutOfBoundsException") C [] ⟨0, 12, 15, 13⟩ [] htb (fun z hz => nomatch hz) (by decide) (by decide) (List.mem_cons_of_mem _ tm1_193) (va_Nw.use rfl (C.2.2.2.2.2.2.2 _ (List.mem_of_getElem? (i := 0) rfl))) (fun q => ?_)
      refine jr_astore (lv' := [(5, .ref q), (0, .ref (ad 0)), (1, .int l1), (2, .int l2), (3, .int l3), (4, .ref ao)]) C dLw_wrong_15 (by decide) rfl ?_
      refine jr_iconst (v := 1) C dLw_wrong_17 (by decide) ?_
      exact jr_retNi (u := (u, f)) C hr hlocks dLw_wrong_18 (Nat.le_of_ble_eq_true rfl) (Nat.le_of_ble_eq_true rfl) h rfl
  · refine jr_i2l C dLw_wrong_10 ?_
    refine jr_last (t0 := 3) C dLw_wrong_11 oA rfl vi_01 ?_
    refine jr_ws oP ?_
    refine jr_goto (tgt := 19) C dLw_wrong_12 (by decide) ?_
    refine jr_iconst (v := 0) C dLw_wrong_19 (by decide) ?_
    exact jr_retNi (u := (u, vp_updL f (Int32.toNatClampNeg 0) r.toInt64)) C hr hlocks dLw_wrong_20 (Nat.le_of_ble_eq_true rfl) (Nat.le_of_ble_eq_true rfl) h rfl
def wp_Lw_right (K F : Nat) (st : jS) (f : Nat → Int64) (l1 : Int32) (post : Int32 → jS × (Nat → Int64) → Prop) : Prop :=
  wp_KT_right K F st l1 (fun r u => post 0 (u, vp_updL f (Int32.toNatClampNeg 0) r.toInt64)) (fun E u => (E = "java/lang/IndexOutOfBoundsException" ∧ post 1 (u, f)))
set_option maxRecDepth 100000 in
set_option maxHeartbeats 4000000 in
theorem c_Lw_right (hl0 : l.stackTraces = false) {st : jS} {f : Nat → Int64} {l1 : Int32} {post : Int32 → jS × (Nat → Int64) → Prop} (h : wp_Lw_right K F st f l1 post) : jr_Ni l yLw_right wLw_right ({ frames := 8, cells := 1, slots := 6, locals := 144 }) [.ref (ad 0), .int l1, .ref ao] D kC (kT cI cII cL cJ) (kW cI cII cL ad K F (oC cJ ao f :: fr) st) (kS sa) (oW cI cII cL cJ ad ao K F fr) post 1 6 := by
  refine jr_ofWi (cc := bLw_right) (nL := 4) (lv := [(0, .ref (ad 0)), (1, .int l1), (2, .ref ao)]) (by decide) rfl (Nat.le_of_ble_eq_true rfl) rfl (fun p e s m args below meth c A C hr hlocks htb hZ hs9 hnc => ?_)
  unfold wp_Lw_right at h
  refine jr_aload_n (q := 2) C dLw_right_0 rfl rfl ?_
  refine jr_iconst (v := 0) C dLw_right_1 (by decide) ?_
  refine jr_aload_n (q := 0) C dLw_right_2 rfl rfl ?_
  refine jr_iload_n (q := 1) C dLw_right_3 rfl rfl ?_
  refine jr_callCi (wf := kW cI cII cL ad K F (oC cJ ao f :: fr)) (As := [.int l1]) (rest := [.int 0, .ref ao]) C hZ hs9 (c_KT_right hl0 h) (cwV 1 C.2.2.2.2.1 (tg_V tm2_179 tm2_180 tm2_181 tm1_1 tm2_182) rfl rfl rfl ⟨rfl, by decide, by decide, by decide⟩ ⟨Nat.le_of_ble_eq_true rfl, Nat.le_of_ble_eq_true rfl⟩) dLw_right_4 (rfl : kC[0]? = _) kA_0 rfl rfl (Nat.le_of_ble_eq_true rfl) ⟨Nat.le_of_ble_eq_true rfl, Nat.le_of_ble_eq_true rfl⟩ (fun E u h => ?_) (fun r u h => ?_)
  · rcases h with ⟨rfl, h⟩
    · refine jr_catch (name := "java/lang/IndexOutOfBoundsException") C [] ⟨0, 9, 12, 13⟩ [] htb (fun z hz => nomatch hz) (by decide) (by decide) (List.mem_cons_of_mem _ tm1_193) (va_Nw.use rfl (C.2.2.2.2.2.2.2 _ (List.mem_of_getElem? (i := 0) rfl))) (fun q => ?_)
      refine jr_astore_n (lv' := [(3, .ref q), (0, .ref (ad 0)), (1, .int l1), (2, .ref ao)]) C dLw_right_12 rfl (by decide) rfl ?_
      refine jr_iconst (v := 1) C dLw_right_13 (by decide) ?_
      exact jr_retNi (u := (u, f)) C hr hlocks dLw_right_14 (Nat.le_of_ble_eq_true rfl) (Nat.le_of_ble_eq_true rfl) h rfl
  · refine jr_i2l C dLw_right_7 ?_
    refine jr_last (t0 := 3) C dLw_right_8 oA rfl vi_01 ?_
    refine jr_ws oP ?_
    refine jr_goto (tgt := 15) C dLw_right_9 (by decide) ?_
    refine jr_iconst (v := 0) C dLw_right_15 (by decide) ?_
    exact jr_retNi (u := (u, vp_updL f (Int32.toNatClampNeg 0) r.toInt64)) C hr hlocks dLw_right_16 (Nat.le_of_ble_eq_true rfl) (Nat.le_of_ble_eq_true rfl) h rfl
def wp_Lw_best (K F : Nat) (st : jS) (f : Nat → Int64) (l1 : Int32) (post : Int32 → jS × (Nat → Int64) → Prop) : Prop :=
  wp_KT_best K F st l1 (fun r u => post 0 (u, vp_updL f (Int32.toNatClampNeg 0) r.toInt64)) (fun E u => (E = "java/lang/IndexOutOfBoundsException" ∧ post 1 (u, f)))
set_option maxRecDepth 100000 in
set_option maxHeartbeats 4000000 in
theorem c_Lw_best (hl0 : l.stackTraces = false) {st : jS} {f : Nat → Int64} {l1 : Int32} {post : Int32 → jS × (Nat → Int64) → Prop} (h : wp_Lw_best K F st f l1 post) : jr_Ni l yLw_best wLw_best ({ frames := 8, cells := 1, slots := 6, locals := 166 }) [.ref (ad 0), .int l1, .ref ao] D kC (kT cI cII cL cJ) (kW cI cII cL ad K F (oC cJ ao f :: fr) st) (kS sa) (oW cI cII cL cJ ad ao K F fr) post 1 6 := by
  refine jr_ofWi (cc := bLw_best) (nL := 4) (lv := [(0, .ref (ad 0)), (1, .int l1), (2, .ref ao)]) (by decide) rfl (Nat.le_of_ble_eq_true rfl) rfl (fun p e s m args below meth c A C hr hlocks htb hZ hs9 hnc => ?_)
  unfold wp_Lw_best at h
  refine jr_aload_n (q := 2) C dLw_best_0 rfl rfl ?_
  refine jr_iconst (v := 0) C dLw_best_1 (by decide) ?_
  refine jr_aload_n (q := 0) C dLw_best_2 rfl rfl ?_
  refine jr_iload_n (q := 1) C dLw_best_3 rfl rfl ?_
  refine jr_callCi (wf := kW cI cII cL ad K F (oC cJ ao f :: fr)) (As := [.int l1]) (rest := [.int 0, .ref ao]) C hZ hs9 (c_KT_best hl0 h) (cwV 1 C.2.2.2.2.1 (tg_V tm2_190 tm2_191 tm2_192 tm1_1 tm2_193) rfl rfl rfl ⟨rfl, by decide, by decide, by decide⟩ ⟨Nat.le_of_ble_eq_true rfl, Nat.le_of_ble_eq_true rfl⟩) dLw_best_4 (rfl : kC[0]? = _) kA_0 rfl rfl (Nat.le_of_ble_eq_true rfl) ⟨Nat.le_of_ble_eq_true rfl, Nat.le_of_ble_eq_true rfl⟩ (fun E u h => ?_) (fun r u h => ?_)
  · rcases h with ⟨rfl, h⟩
    · refine jr_catch (name := "java/lang/IndexOutOfBoundsException") C [] ⟨0, 9, 12, 13⟩ [] htb (fun z hz => nomatch hz) (by decide) (by decide) (List.mem_cons_of_mem _ tm1_193) (va_Nw.use rfl (C.2.2.2.2.2.2.2 _ (List.mem_of_getElem? (i := 0) rfl))) (fun q => ?_)
      refine jr_astore_n (lv' := [(3, .ref q), (0, .ref (ad 0)), (1, .int l1), (2, .ref ao)]) C dLw_best_12 rfl (by decide) rfl ?_
      refine jr_iconst (v := 1) C dLw_best_13 (by decide) ?_
      exact jr_retNi (u := (u, f)) C hr hlocks dLw_best_14 (Nat.le_of_ble_eq_true rfl) (Nat.le_of_ble_eq_true rfl) h rfl
  · refine jr_i2l C dLw_best_7 ?_
    refine jr_last (t0 := 3) C dLw_best_8 oA rfl vi_01 ?_
    refine jr_ws oP ?_
    refine jr_goto (tgt := 15) C dLw_best_9 (by decide) ?_
    refine jr_iconst (v := 0) C dLw_best_15 (by decide) ?_
    exact jr_retNi (u := (u, vp_updL f (Int32.toNatClampNeg 0) r.toInt64)) C hr hlocks dLw_best_16 (Nat.le_of_ble_eq_true rfl) (Nat.le_of_ble_eq_true rfl) h rfl
def wp_Lw_mixed (K F : Nat) (st : jS) (f : Nat → Int64) (l1 : Int32) (l2 : Int32) (post : Int32 → jS × (Nat → Int64) → Prop) : Prop :=
  wp_KT_mixed K F st l1 l2 (fun r u => post 0 (u, vp_updL f (Int32.toNatClampNeg 0) r.toInt64)) (fun E u => (E = "java/lang/IndexOutOfBoundsException" ∧ post 1 (u, f)))
set_option maxRecDepth 100000 in
set_option maxHeartbeats 4000000 in
theorem c_Lw_mixed (hl0 : l.stackTraces = false) {st : jS} {f : Nat → Int64} {l1 : Int32} {l2 : Int32} {post : Int32 → jS × (Nat → Int64) → Prop} (h : wp_Lw_mixed K F st f l1 l2 post) : jr_Ni l yLw_mixed wLw_mixed ({ frames := 8, cells := 2, slots := 12, locals := 167 }) [.ref (ad 0), .int l1, .int l2, .ref ao] D kC (kT cI cII cL cJ) (kW cI cII cL ad K F (oC cJ ao f :: fr) st) (kS sa) (oW cI cII cL cJ ad ao K F fr) post 2 12 := by
  refine jr_ofWi (cc := bLw_mixed) (nL := 5) (lv := [(0, .ref (ad 0)), (1, .int l1), (2, .int l2), (3, .ref ao)]) (by decide) rfl (Nat.le_of_ble_eq_true rfl) rfl (fun p e s m args below meth c A C hr hlocks htb hZ hs9 hnc => ?_)
  unfold wp_Lw_mixed at h
  refine jr_aload_n (q := 3) C dLw_mixed_0 rfl rfl ?_
  refine jr_iconst (v := 0) C dLw_mixed_1 (by decide) ?_
  refine jr_aload_n (q := 0) C dLw_mixed_2 rfl rfl ?_
  refine jr_iload_n (q := 1) C dLw_mixed_3 rfl rfl ?_
  refine jr_iload_n (q := 2) C dLw_mixed_4 rfl rfl ?_
  refine jr_callCi (wf := kW cI cII cL ad K F (oC cJ ao f :: fr)) (As := [.int l1, .int l2]) (rest := [.int 0, .ref ao]) C hZ hs9 (c_KT_mixed hl0 h) (cwV 2 C.2.2.2.2.1 (tg_V tm2_206 tm2_207 tm2_208 tm1_1 tm2_209) rfl rfl rfl ⟨rfl, by decide, by decide, by decide⟩ ⟨Nat.le_of_ble_eq_true rfl, Nat.le_of_ble_eq_true rfl⟩) dLw_mixed_5 (rfl : kC[0]? = _) kA_0 rfl rfl (Nat.le_of_ble_eq_true rfl) ⟨Nat.le_of_ble_eq_true rfl, Nat.le_of_ble_eq_true rfl⟩ (fun E u h => ?_) (fun r u h => ?_)
  · rcases h with ⟨rfl, h⟩
    · refine jr_catch (name := "java/lang/IndexOutOfBoundsException") C [] ⟨0, 10, 13, 13⟩ [] htb (fun z hz => nomatch hz) (by decide) (by decide) (List.mem_cons_of_mem _ tm1_193) (va_Nw.use rfl (C.2.2.2.2.2.2.2 _ (List.mem_of_getElem? (i := 0) rfl))) (fun q => ?_)
      refine jr_astore (lv' := [(4, .ref q), (0, .ref (ad 0)), (1, .int l1), (2, .int l2), (3, .ref ao)]) C dLw_mixed_13 (by decide) rfl ?_
      refine jr_iconst (v := 1) C dLw_mixed_15 (by decide) ?_
      exact jr_retNi (u := (u, f)) C hr hlocks dLw_mixed_16 (Nat.le_of_ble_eq_true rfl) (Nat.le_of_ble_eq_true rfl) h rfl
  · refine jr_i2l C dLw_mixed_8 ?_
    refine jr_last (t0 := 3) C dLw_mixed_9 oA rfl vi_01 ?_
    refine jr_ws oP ?_
    refine jr_goto (tgt := 17) C dLw_mixed_10 (by decide) ?_
    refine jr_iconst (v := 0) C dLw_mixed_17 (by decide) ?_
    exact jr_retNi (u := (u, vp_updL f (Int32.toNatClampNeg 0) r.toInt64)) C hr hlocks dLw_mixed_18 (Nat.le_of_ble_eq_true rfl) (Nat.le_of_ble_eq_true rfl) h rfl
def wp_Lw_groups (K F : Nat) (st : jS) (f : Nat → Int64) (l1 : Int32) (post : Int32 → jS × (Nat → Int64) → Prop) : Prop :=
  wp_KT_groups K F st l1 (fun r u => post 0 (u, vp_updL f (Int32.toNatClampNeg 0) r.toInt64)) (fun E u => (E = "java/lang/IllegalArgumentException" ∧ post 1 (u, f)))
set_option maxRecDepth 100000 in
set_option maxHeartbeats 4000000 in
theorem c_Lw_groups (hl0 : l.stackTraces = false) {st : jS} {f : Nat → Int64} {l1 : Int32} {post : Int32 → jS × (Nat → Int64) → Prop} (h : wp_Lw_groups K F st f l1 post) : jr_Ni l yLw_groups wLw_groups ({ frames := 8, cells := 1, slots := 6, locals := 133 }) [.ref (ad 0), .int l1, .ref ao] D kC (kT cI cII cL cJ) (kW cI cII cL ad K F (oC cJ ao f :: fr) st) (kS sa) (oW cI cII cL cJ ad ao K F fr) post 1 6 := by
  refine jr_ofWi (cc := bLw_groups) (nL := 4) (lv := [(0, .ref (ad 0)), (1, .int l1), (2, .ref ao)]) (by decide) rfl (Nat.le_of_ble_eq_true rfl) rfl (fun p e s m args below meth c A C hr hlocks htb hZ hs9 hnc => ?_)
  unfold wp_Lw_groups at h
  refine jr_aload_n (q := 2) C dLw_groups_0 rfl rfl ?_
  refine jr_iconst (v := 0) C dLw_groups_1 (by decide) ?_
  refine jr_aload_n (q := 0) C dLw_groups_2 rfl rfl ?_
  refine jr_iload_n (q := 1) C dLw_groups_3 rfl rfl ?_
  refine jr_callCi (wf := kW cI cII cL ad K F (oC cJ ao f :: fr)) (As := [.int l1]) (rest := [.int 0, .ref ao]) C hZ hs9 (c_KT_groups hl0 h) (cwV 1 C.2.2.2.2.1 (tg_V tm2_213 tm2_214 tm2_215 tm1_1 tm2_216) rfl rfl rfl ⟨rfl, by decide, by decide, by decide⟩ ⟨Nat.le_of_ble_eq_true rfl, Nat.le_of_ble_eq_true rfl⟩) dLw_groups_4 (rfl : kC[0]? = _) kA_0 rfl rfl (Nat.le_of_ble_eq_true rfl) ⟨Nat.le_of_ble_eq_true rfl, Nat.le_of_ble_eq_true rfl⟩ (fun E u h => ?_) (fun r u h => ?_)
  · rcases h with ⟨rfl, h⟩
    · refine jr_catch (name := "java/lang/IllegalArgumentException") C [] ⟨0, 9, 12, 21⟩ [] htb (fun z hz => nomatch hz) (by decide) (by decide) (List.mem_cons_of_mem _ tm2_58) (va_Nw.use rfl (C.2.2.2.2.2.2.2 _ (List.mem_of_getElem? (i := 8) rfl))) (fun q => ?_)
      refine jr_astore_n (lv' := [(3, .ref q), (0, .ref (ad 0)), (1, .int l1), (2, .ref ao)]) C dLw_groups_12 rfl (by decide) rfl ?_
      refine jr_iconst (v := 1) C dLw_groups_13 (by decide) ?_
      exact jr_retNi (u := (u, f)) C hr hlocks dLw_groups_14 (Nat.le_of_ble_eq_true rfl) (Nat.le_of_ble_eq_true rfl) h rfl
  · refine jr_i2l C dLw_groups_7 ?_
    refine jr_last (t0 := 3) C dLw_groups_8 oA rfl vi_01 ?_
    refine jr_ws oP ?_
    refine jr_goto (tgt := 15) C dLw_groups_9 (by decide) ?_
    refine jr_iconst (v := 0) C dLw_groups_15 (by decide) ?_
    exact jr_retNi (u := (u, vp_updL f (Int32.toNatClampNeg 0) r.toInt64)) C hr hlocks dLw_groups_16 (Nat.le_of_ble_eq_true rfl) (Nat.le_of_ble_eq_true rfl) h rfl
def wp_Lw_nearest (K F : Nat) (st : jS) (f : Nat → Int64) (l1 : Int32) (l2 : Int32) (post : Int32 → jS × (Nat → Int64) → Prop) : Prop :=
  wp_KT_nearest K F st l1 l2 (fun r u => post 0 (u, vp_updL f (Int32.toNatClampNeg 0) r.toInt64)) (fun E u => (E = "java/lang/IndexOutOfBoundsException" ∧ post 1 (u, f)) ∨ (E = "java/lang/IllegalArgumentException" ∧ post 2 (u, f)))
set_option maxRecDepth 100000 in
set_option maxHeartbeats 4000000 in
theorem c_Lw_nearest (hl0 : l.stackTraces = false) {st : jS} {f : Nat → Int64} {l1 : Int32} {l2 : Int32} {post : Int32 → jS × (Nat → Int64) → Prop} (h : wp_Lw_nearest K F st f l1 l2 post) : jr_Ni l yLw_nearest wLw_nearest ({ frames := 8, cells := 2, slots := 12, locals := 133 }) [.ref (ad 0), .int l1, .int l2, .ref ao] D kC (kT cI cII cL cJ) (kW cI cII cL ad K F (oC cJ ao f :: fr) st) (kS sa) (oW cI cII cL cJ ad ao K F fr) post 2 12 := by
  refine jr_ofWi (cc := bLw_nearest) (nL := 5) (lv := [(0, .ref (ad 0)), (1, .int l1), (2, .int l2), (3, .ref ao)]) (by decide) rfl (Nat.le_of_ble_eq_true rfl) rfl (fun p e s m args below meth c A C hr hlocks htb hZ hs9 hnc => ?_)
  unfold wp_Lw_nearest at h
  refine jr_aload_n (q := 3) C dLw_nearest_0 rfl rfl ?_
  refine jr_iconst (v := 0) C dLw_nearest_1 (by decide) ?_
  refine jr_aload_n (q := 0) C dLw_nearest_2 rfl rfl ?_
  refine jr_iload_n (q := 1) C dLw_nearest_3 rfl rfl ?_
  refine jr_iload_n (q := 2) C dLw_nearest_4 rfl rfl ?_
  refine jr_callCi (wf := kW cI cII cL ad K F (oC cJ ao f :: fr)) (As := [.int l1, .int l2]) (rest := [.int 0, .ref ao]) C hZ hs9 (c_KT_nearest hl0 h) (cwV 2 C.2.2.2.2.1 (tg_V tm2_229 tm2_230 tm2_231 tm1_1 tm2_232) rfl rfl rfl ⟨rfl, by decide, by decide, by decide⟩ ⟨Nat.le_of_ble_eq_true rfl, Nat.le_of_ble_eq_true rfl⟩) dLw_nearest_5 (rfl : kC[0]? = _) kA_0 rfl rfl (Nat.le_of_ble_eq_true rfl) ⟨Nat.le_of_ble_eq_true rfl, Nat.le_of_ble_eq_true rfl⟩ (fun E u h => ?_) (fun r u h => ?_)
  · rcases h with ⟨rfl, h⟩ | ⟨rfl, h⟩
    · refine jr_catch (name := "java/lang/IndexOutOfBoundsException") C [] ⟨0, 10, 13, 13⟩ [⟨0, 10, 17, 21⟩] htb (fun z hz => nomatch hz) (by decide) (by decide) (List.mem_cons_of_mem _ tm1_193) (va_Nw.use rfl (C.2.2.2.2.2.2.2 _ (List.mem_of_getElem? (i := 0) rfl))) (fun q => ?_)
      refine jr_astore (lv' := [(4, .ref q), (0, .ref (ad 0)), (1, .int l1), (2, .int l2), (3, .ref ao)]) C dLw_nearest_13 (by decide) rfl ?_
      refine jr_iconst (v := 1) C dLw_nearest_15 (by decide) ?_
      exact jr_retNi (u := (u, f)) C hr hlocks dLw_nearest_16 (Nat.le_of_ble_eq_true rfl) (Nat.le_of_ble_eq_true rfl) h rfl
    · refine jr_catch (name := "java/lang/IllegalArgumentException") C [⟨0, 10, 13, 13⟩] ⟨0, 10, 17, 21⟩ [] htb (fun z hz => by rcases List.mem_cons.mp hz with rfl | hz; exact ⟨by decide, "java/lang/IndexOutOfBoundsException", List.mem_cons_of_mem _ tm1_193, hnc ("java/lang/IllegalArgumentException", "java/lang/IndexOutOfBoundsException") (List.mem_of_getElem? (i := 1) rfl)⟩; exact nomatch hz) (by decide) (by decide) (List.mem_cons_of_mem _ tm2_58) (va_Nw.use rfl (C.2.2.2.2.2.2.2 _ (List.mem_of_getElem? (i := 8) rfl))) (fun q => ?_)
      refine jr_astore (lv' := [(4, .ref q), (0, .ref (ad 0)), (1, .int l1), (2, .int l2), (3, .ref ao)]) C dLw_nearest_17 (by decide) rfl ?_
      refine jr_iconst (v := 2) C dLw_nearest_19 (by decide) ?_
      exact jr_retNi (u := (u, f)) C hr hlocks dLw_nearest_20 (Nat.le_of_ble_eq_true rfl) (Nat.le_of_ble_eq_true rfl) h rfl
  · refine jr_i2l C dLw_nearest_8 ?_
    refine jr_last (t0 := 3) C dLw_nearest_9 oA rfl vi_01 ?_
    refine jr_ws oP ?_
    refine jr_goto (tgt := 21) C dLw_nearest_10 (by decide) ?_
    refine jr_iconst (v := 0) C dLw_nearest_21 (by decide) ?_
    exact jr_retNi (u := (u, vp_updL f (Int32.toNatClampNeg 0) r.toInt64)) C hr hlocks dLw_nearest_22 (Nat.le_of_ble_eq_true rfl) (Nat.le_of_ble_eq_true rfl) h rfl
def wp_Lw_distance (K F : Nat) (st : jS) (f : Nat → Int64) (l1 : Int32) (l2 : Int32) (post : Int32 → jS × (Nat → Int64) → Prop) : Prop :=
  wp_KT_distance K F st l1 l2 (fun r u => post 0 (u, vp_updL f (Int32.toNatClampNeg 0) r.toInt64)) (fun E u => (E = "java/lang/IndexOutOfBoundsException" ∧ post 1 (u, f)))
set_option maxRecDepth 100000 in
set_option maxHeartbeats 4000000 in
theorem c_Lw_distance (hl0 : l.stackTraces = false) {st : jS} {f : Nat → Int64} {l1 : Int32} {l2 : Int32} {post : Int32 → jS × (Nat → Int64) → Prop} (h : wp_Lw_distance K F st f l1 l2 post) : jr_Ni l yLw_distance wLw_distance ({ frames := 8, cells := 2, slots := 12, locals := 133 }) [.ref (ad 0), .int l1, .int l2, .ref ao] D kC (kT cI cII cL cJ) (kW cI cII cL ad K F (oC cJ ao f :: fr) st) (kS sa) (oW cI cII cL cJ ad ao K F fr) post 2 12 := by
  refine jr_ofWi (cc := bLw_distance) (nL := 5) (lv := [(0, .ref (ad 0)), (1, .int l1), (2, .int l2), (3, .ref ao)]) (by decide) rfl (Nat.le_of_ble_eq_true rfl) rfl (fun p e s m args below meth c A C hr hlocks htb hZ hs9 hnc => ?_)
  unfold wp_Lw_distance at h
  refine jr_aload_n (q := 3) C dLw_distance_0 rfl rfl ?_
  refine jr_iconst (v := 0) C dLw_distance_1 (by decide) ?_
  refine jr_aload_n (q := 0) C dLw_distance_2 rfl rfl ?_
  refine jr_iload_n (q := 1) C dLw_distance_3 rfl rfl ?_
  refine jr_iload_n (q := 2) C dLw_distance_4 rfl rfl ?_
  refine jr_callCi (wf := kW cI cII cL ad K F (oC cJ ao f :: fr)) (As := [.int l1, .int l2]) (rest := [.int 0, .ref ao]) C hZ hs9 (c_KT_distance hl0 h) (cwV 2 C.2.2.2.2.1 (tg_V tm3_16 tm3_17 tm3_18 tm1_1 tm3_19) rfl rfl rfl ⟨rfl, by decide, by decide, by decide⟩ ⟨Nat.le_of_ble_eq_true rfl, Nat.le_of_ble_eq_true rfl⟩) dLw_distance_5 (rfl : kC[0]? = _) kA_0 rfl rfl (Nat.le_of_ble_eq_true rfl) ⟨Nat.le_of_ble_eq_true rfl, Nat.le_of_ble_eq_true rfl⟩ (fun E u h => ?_) (fun r u h => ?_)
  · rcases h with ⟨rfl, h⟩
    · refine jr_catch (name := "java/lang/IndexOutOfBoundsException") C [] ⟨0, 10, 13, 13⟩ [] htb (fun z hz => nomatch hz) (by decide) (by decide) (List.mem_cons_of_mem _ tm1_193) (va_Nw.use rfl (C.2.2.2.2.2.2.2 _ (List.mem_of_getElem? (i := 0) rfl))) (fun q => ?_)
      refine jr_astore (lv' := [(4, .ref q), (0, .ref (ad 0)), (1, .int l1), (2, .int l2), (3, .ref ao)]) C dLw_distance_13 (by decide) rfl ?_
      refine jr_iconst (v := 1) C dLw_distance_15 (by decide) ?_
      exact jr_retNi (u := (u, f)) C hr hlocks dLw_distance_16 (Nat.le_of_ble_eq_true rfl) (Nat.le_of_ble_eq_true rfl) h rfl
  · refine jr_i2l C dLw_distance_8 ?_
    refine jr_last (t0 := 3) C dLw_distance_9 oA rfl vi_01 ?_
    refine jr_ws oP ?_
    refine jr_goto (tgt := 17) C dLw_distance_10 (by decide) ?_
    refine jr_iconst (v := 0) C dLw_distance_17 (by decide) ?_
    exact jr_retNi (u := (u, vp_updL f (Int32.toNatClampNeg 0) r.toInt64)) C hr hlocks dLw_distance_18 (Nat.le_of_ble_eq_true rfl) (Nat.le_of_ble_eq_true rfl) h rfl
def wp_Lw_haul (K F : Nat) (st : jS) (f : Nat → Int64) (l1 : Int32) (l2 : Int32) (post : Int32 → jS × (Nat → Int64) → Prop) : Prop :=
  wp_KT_haul K F st l1 l2 (fun r u => post 0 (u, vp_updL f (Int32.toNatClampNeg 0) r.toInt64)) (fun E u => (E = "java/lang/IllegalArgumentException" ∧ post 1 (u, f)) ∨ (E = "java/lang/IllegalStateException" ∧ post 2 (u, f)))
set_option maxRecDepth 100000 in
set_option maxHeartbeats 4000000 in
theorem c_Lw_haul (hl0 : l.stackTraces = false) {st : jS} {f : Nat → Int64} {l1 : Int32} {l2 : Int32} {post : Int32 → jS × (Nat → Int64) → Prop} (h : wp_Lw_haul K F st f l1 l2 post) : jr_Ni l yLw_haul wLw_haul ({ frames := 9, cells := 3, slots := 18, locals := 155 }) [.ref (ad 0), .int l1, .int l2, .ref ao] D kC (kT cI cII cL cJ) (kW cI cII cL ad K F (oC cJ ao f :: fr) st) (kS sa) (oW cI cII cL cJ ad ao K F fr) post 3 18 := by
  refine jr_ofWi (cc := bLw_haul) (nL := 5) (lv := [(0, .ref (ad 0)), (1, .int l1), (2, .int l2), (3, .ref ao)]) (by decide) rfl (Nat.le_of_ble_eq_true rfl) rfl (fun p e s m args below meth c A C hr hlocks htb hZ hs9 hnc => ?_)
  unfold wp_Lw_haul at h
  refine jr_aload_n (q := 3) C dLw_haul_0 rfl rfl ?_
  refine jr_iconst (v := 0) C dLw_haul_1 (by decide) ?_
  refine jr_aload_n (q := 0) C dLw_haul_2 rfl rfl ?_
  refine jr_iload_n (q := 1) C dLw_haul_3 rfl rfl ?_
  refine jr_iload_n (q := 2) C dLw_haul_4 rfl rfl ?_
  refine jr_callCi (wf := kW cI cII cL ad K F (oC cJ ao f :: fr)) (As := [.int l1, .int l2]) (rest := [.int 0, .ref ao]) C hZ hs9 (c_KT_haul hl0 h) (cwV 2 C.2.2.2.2.1 (tg_V tm3_24 tm3_25 tm3_26 tm1_1 tm3_27) rfl rfl rfl ⟨rfl, by decide, by decide, by decide⟩ ⟨Nat.le_of_ble_eq_true rfl, Nat.le_of_ble_eq_true rfl⟩) dLw_haul_5 (rfl : kC[0]? = _) kA_0 rfl rfl (Nat.le_of_ble_eq_true rfl) ⟨Nat.le_of_ble_eq_true rfl, Nat.le_of_ble_eq_true rfl⟩ (fun E u h => ?_) (fun r u h => ?_)
  · rcases h with ⟨rfl, h⟩ | ⟨rfl, h⟩
    · refine jr_catch (name := "java/lang/IllegalArgumentException") C [] ⟨0, 10, 13, 21⟩ [⟨0, 10, 17, 15⟩] htb (fun z hz => nomatch hz) (by decide) (by decide) (List.mem_cons_of_mem _ tm2_58) (va_Nw.use rfl (C.2.2.2.2.2.2.2 _ (List.mem_of_getElem? (i := 8) rfl))) (fun q => ?_)
      refine jr_astore (lv' := [(4, .ref q), (0, .ref (ad 0)), (1, .int l1), (2, .int l2), (3, .ref ao)]) C dLw_haul_13 (by decide) rfl ?_
      refine jr_iconst (v := 1) C dLw_haul_15 (by decide) ?_
      exact jr_retNi (u := (u, f)) C hr hlocks dLw_haul_16 (Nat.le_of_ble_eq_true rfl) (Nat.le_of_ble_eq_true rfl) h rfl
    · refine jr_catch (name := "java/lang/IllegalStateException") C [⟨0, 10, 13, 21⟩] ⟨0, 10, 17, 15⟩ [] htb (fun z hz => by rcases List.mem_cons.mp hz with rfl | hz; exact ⟨by decide, "java/lang/IllegalArgumentException", List.mem_cons_of_mem _ tm2_58, hnc ("java/lang/IllegalStateException", "java/lang/IllegalArgumentException") (List.mem_of_getElem? (i := 2) rfl)⟩; exact nomatch hz) (by decide) (by decide) (List.mem_cons_of_mem _ tm1_194) (va_Nw.use rfl (C.2.2.2.2.2.2.2 _ (List.mem_of_getElem? (i := 7) rfl))) (fun q => ?_)
      refine jr_astore (lv' := [(4, .ref q), (0, .ref (ad 0)), (1, .int l1), (2, .int l2), (3, .ref ao)]) C dLw_haul_17 (by decide) rfl ?_
      refine jr_iconst (v := 2) C dLw_haul_19 (by decide) ?_
      exact jr_retNi (u := (u, f)) C hr hlocks dLw_haul_20 (Nat.le_of_ble_eq_true rfl) (Nat.le_of_ble_eq_true rfl) h rfl
  · refine jr_i2l C dLw_haul_8 ?_
    refine jr_last (t0 := 3) C dLw_haul_9 oA rfl vi_01 ?_
    refine jr_ws oP ?_
    refine jr_goto (tgt := 21) C dLw_haul_10 (by decide) ?_
    refine jr_iconst (v := 0) C dLw_haul_21 (by decide) ?_
    exact jr_retNi (u := (u, vp_updL f (Int32.toNatClampNeg 0) r.toInt64)) C hr hlocks dLw_haul_22 (Nat.le_of_ble_eq_true rfl) (Nat.le_of_ble_eq_true rfl) h rfl
def wp_Lw_grams (K F : Nat) (st : jS) (f : Nat → Int64) (l1 : Int32) (l2 : Int32) (l3 : Int32) (post : Int32 → jS × (Nat → Int64) → Prop) : Prop :=
  wp_KT_grams K F st l1 l2 l3 (fun r u => post 0 (u, vp_updL f (Int32.toNatClampNeg 0) r.toInt64)) (fun E u => (E = "java/lang/IndexOutOfBoundsException" ∧ post 1 (u, f)) ∨ (E = "java/lang/IllegalArgumentException" ∧ post 2 (u, f)))
set_option maxRecDepth 100000 in
set_option maxHeartbeats 4000000 in
theorem c_Lw_grams (hl0 : l.stackTraces = false) {st : jS} {f : Nat → Int64} {l1 : Int32} {l2 : Int32} {l3 : Int32} {post : Int32 → jS × (Nat → Int64) → Prop} (h : wp_Lw_grams K F st f l1 l2 l3 post) : jr_Ni l yLw_grams wLw_grams ({ frames := 8, cells := 3, slots := 18, locals := 136 }) [.ref (ad 0), .int l1, .int l2, .int l3, .ref ao] D kC (kT cI cII cL cJ) (kW cI cII cL ad K F (oC cJ ao f :: fr) st) (kS sa) (oW cI cII cL cJ ad ao K F fr) post 3 18 := by
  refine jr_ofWi (cc := bLw_grams) (nL := 6) (lv := [(0, .ref (ad 0)), (1, .int l1), (2, .int l2), (3, .int l3), (4, .ref ao)]) (by decide) rfl (Nat.le_of_ble_eq_true rfl) rfl (fun p e s m args below meth c A C hr hlocks htb hZ hs9 hnc => ?_)
  unfold wp_Lw_grams at h
  refine jr_aload (q := 4) C dLw_grams_0 rfl ?_
  refine jr_iconst (v := 0) C dLw_grams_2 (by decide) ?_
  refine jr_aload_n (q := 0) C dLw_grams_3 rfl rfl ?_
  refine jr_iload_n (q := 1) C dLw_grams_4 rfl rfl ?_
  refine jr_iload_n (q := 2) C dLw_grams_5 rfl rfl ?_
  refine jr_iload_n (q := 3) C dLw_grams_6 rfl rfl ?_
  refine jr_callCi (wf := kW cI cII cL ad K F (oC cJ ao f :: fr)) (As := [.int l1, .int l2, .int l3]) (rest := [.int 0, .ref ao]) C hZ hs9 (c_KT_grams hl0 h) (cwV 3 C.2.2.2.2.1 (tg_V tm3_39 tm3_40 tm3_41 tm1_1 tm3_42) rfl rfl rfl ⟨rfl, by decide, by decide, by decide⟩ ⟨Nat.le_of_ble_eq_true rfl, Nat.le_of_ble_eq_true rfl⟩) dLw_grams_7 (rfl : kC[0]? = _) kA_0 rfl rfl (Nat.le_of_ble_eq_true rfl) ⟨Nat.le_of_ble_eq_true rfl, Nat.le_of_ble_eq_true rfl⟩ (fun E u h => ?_) (fun r u h => ?_)
  · rcases h with ⟨rfl, h⟩ | ⟨rfl, h⟩
    · refine jr_catch (name := "java/lang/IndexOutOfBoundsException") C [] ⟨0, 12, 15, 13⟩ [⟨0, 12, 19, 21⟩] htb (fun z hz => nomatch hz) (by decide) (by decide) (List.mem_cons_of_mem _ tm1_193) (va_Nw.use rfl (C.2.2.2.2.2.2.2 _ (List.mem_of_getElem? (i := 0) rfl))) (fun q => ?_)
      refine jr_astore (lv' := [(5, .ref q), (0, .ref (ad 0)), (1, .int l1), (2, .int l2), (3, .int l3), (4, .ref ao)]) C dLw_grams_15 (by decide) rfl ?_
      refine jr_iconst (v := 1) C dLw_grams_17 (by decide) ?_
      exact jr_retNi (u := (u, f)) C hr hlocks dLw_grams_18 (Nat.le_of_ble_eq_true rfl) (Nat.le_of_ble_eq_true rfl) h rfl
    · refine jr_catch (name := "java/lang/IllegalArgumentException") C [⟨0, 12, 15, 13⟩] ⟨0, 12, 19, 21⟩ [] htb (fun z hz => by rcases List.mem_cons.mp hz with rfl | hz; exact ⟨by decide, "java/lang/IndexOutOfBoundsException", List.mem_cons_of_mem _ tm1_193, hnc ("java/lang/IllegalArgumentException", "java/lang/IndexOutOfBoundsException") (List.mem_of_getElem? (i := 1) rfl)⟩; exact nomatch hz) (by decide) (by decide) (List.mem_cons_of_mem _ tm2_58) (va_Nw.use rfl (C.2.2.2.2.2.2.2 _ (List.mem_of_getElem? (i := 8) rfl))) (fun q => ?_)
      refine jr_astore (lv' := [(5, .ref q), (0, .ref (ad 0)), (1, .int l1), (2, .int l2), (3, .int l3), (4, .ref ao)]) C dLw_grams_19 (by decide) rfl ?_
      refine jr_iconst (v := 2) C dLw_grams_21 (by decide) ?_
      exact jr_retNi (u := (u, f)) C hr hlocks dLw_grams_22 (Nat.le_of_ble_eq_true rfl) (Nat.le_of_ble_eq_true rfl) h rfl
  · refine jr_i2l C dLw_grams_10 ?_
    refine jr_last (t0 := 3) C dLw_grams_11 oA rfl vi_01 ?_
    refine jr_ws oP ?_
    refine jr_goto (tgt := 23) C dLw_grams_12 (by decide) ?_
    refine jr_iconst (v := 0) C dLw_grams_23 (by decide) ?_
    exact jr_retNi (u := (u, vp_updL f (Int32.toNatClampNeg 0) r.toInt64)) C hr hlocks dLw_grams_24 (Nat.le_of_ble_eq_true rfl) (Nat.le_of_ble_eq_true rfl) h rfl
def wp_Lw_share (K F : Nat) (st : jS) (f : Nat → Int64) (l1 : Int32) (l2 : Int32) (l3 : Int32) (l4 : Int32) (post : Int32 → jS × (Nat → Int64) → Prop) : Prop :=
  wp_KT_share K F st l1 l2 l3 l4 (fun r u => post 0 (u, vp_updL f (Int32.toNatClampNeg 0) r)) (fun E u => (E = "java/lang/IndexOutOfBoundsException" ∧ post 1 (u, f)) ∨ (E = "java/lang/IllegalArgumentException" ∧ post 2 (u, f)))
set_option maxRecDepth 100000 in
set_option maxHeartbeats 4000000 in
theorem c_Lw_share (hl0 : l.stackTraces = false) {st : jS} {f : Nat → Int64} {l1 : Int32} {l2 : Int32} {l3 : Int32} {l4 : Int32} {post : Int32 → jS × (Nat → Int64) → Prop} (h : wp_Lw_share K F st f l1 l2 l3 l4 post) : jr_Ni l yLw_share wLw_share ({ frames := 9, cells := 4, slots := 24, locals := 157 }) [.ref (ad 0), .int l1, .int l2, .int l3, .int l4, .ref ao] D kC (kT cI cII cL cJ) (kW cI cII cL ad K F (oC cJ ao f :: fr) st) (kS sa) (oW cI cII cL cJ ad ao K F fr) post 4 24 := by
  refine jr_ofWi (cc := bLw_share) (nL := 7) (lv := [(0, .ref (ad 0)), (1, .int l1), (2, .int l2), (3, .int l3), (4, .int l4), (5, .ref ao)]) (by decide) rfl (Nat.le_of_ble_eq_true rfl) rfl (fun p e s m args below meth c A C hr hlocks htb hZ hs9 hnc => ?_)
  unfold wp_Lw_share at h
  refine jr_aload (q := 5) C dLw_share_0 rfl ?_
  refine jr_iconst (v := 0) C dLw_share_2 (by decide) ?_
  refine jr_aload_n (q := 0) C dLw_share_3 rfl rfl ?_
  refine jr_iload_n (q := 1) C dLw_share_4 rfl rfl ?_
  refine jr_iload_n (q := 2) C dLw_share_5 rfl rfl ?_
  refine jr_iload_n (q := 3) C dLw_share_6 rfl rfl ?_
  refine jr_iload (q := 4) C dLw_share_7 rfl ?_
  refine jr_callCl (wf := kW cI cII cL ad K F (oC cJ ao f :: fr)) (As := [.int l1, .int l2, .int l3, .int l4]) (rest := [.int 0, .ref ao]) C hZ hs9 (c_KT_share hl0 h) (cwV 4 C.2.2.2.2.1 (tg_V tm3_51 tm3_52 tm3_53 tm1_1 tm3_54) rfl rfl rfl ⟨rfl, by decide, by decide, by decide⟩ ⟨Nat.le_of_ble_eq_true rfl, Nat.le_of_ble_eq_true rfl⟩) dLw_share_9 (rfl : kC[0]? = _) kA_0 rfl rfl (Nat.le_of_ble_eq_true rfl) ⟨Nat.le_of_ble_eq_true rfl, Nat.le_of_ble_eq_true rfl⟩ (fun E u h => ?_) (fun r u h => ?_)
  · rcases h with ⟨rfl, h⟩ | ⟨rfl, h⟩
    · refine jr_catch (name := "java/lang/IndexOutOfBoundsException") C [] ⟨0, 13, 16, 13⟩ [⟨0, 13, 20, 21⟩] htb (fun z hz => nomatch hz) (by decide) (by decide) (List.mem_cons_of_mem _ tm1_193) (va_Nw.use rfl (C.2.2.2.2.2.2.2 _ (List.mem_of_getElem? (i := 0) rfl))) (fun q => ?_)
      refine jr_astore (lv' := [(6, .ref q), (0, .ref (ad 0)), (1, .int l1), (2, .int l2), (3, .int l3), (4, .int l4), (5, .ref ao)]) C dLw_share_16 (by decide) rfl ?_
      refine jr_iconst (v := 1) C dLw_share_18 (by decide) ?_
      exact jr_retNi (u := (u, f)) C hr hlocks dLw_share_19 (Nat.le_of_ble_eq_true rfl) (Nat.le_of_ble_eq_true rfl) h rfl
    · refine jr_catch (name := "java/lang/IllegalArgumentException") C [⟨0, 13, 16, 13⟩] ⟨0, 13, 20, 21⟩ [] htb (fun z hz => by rcases List.mem_cons.mp hz with rfl | hz; exact ⟨by decide, "java/lang/IndexOutOfBoundsException", List.mem_cons_of_mem _ tm1_193, hnc ("java/lang/IllegalArgumentException", "java/lang/IndexOutOfBoundsException") (List.mem_of_getElem? (i := 1) rfl)⟩; exact nomatch hz) (by decide) (by decide) (List.mem_cons_of_mem _ tm2_58) (va_Nw.use rfl (C.2.2.2.2.2.2.2 _ (List.mem_of_getElem? (i := 8) rfl))) (fun q => ?_)
      refine jr_astore (lv' := [(6, .ref q), (0, .ref (ad 0)), (1, .int l1), (2, .int l2), (3, .int l3), (4, .int l4), (5, .ref ao)]) C dLw_share_20 (by decide) rfl ?_
      refine jr_iconst (v := 2) C dLw_share_22 (by decide) ?_
      exact jr_retNi (u := (u, f)) C hr hlocks dLw_share_23 (Nat.le_of_ble_eq_true rfl) (Nat.le_of_ble_eq_true rfl) h rfl
  · refine jr_last (t0 := 3) C dLw_share_12 oA rfl vi_01 ?_
    refine jr_ws oP ?_
    refine jr_goto (tgt := 24) C dLw_share_13 (by decide) ?_
    refine jr_iconst (v := 0) C dLw_share_24 (by decide) ?_
    exact jr_retNi (u := (u, vp_updL f (Int32.toNatClampNeg 0) r)) C hr hlocks dLw_share_25 (Nat.le_of_ble_eq_true rfl) (Nat.le_of_ble_eq_true rfl) h rfl
def wp_Lw_law (K F : Nat) (st : jS) (f : Nat → Int64) (l1 : Int32) (l2 : Int32) (l3 : Int32) (post : Int32 → jS × (Nat → Int64) → Prop) : Prop :=
  wp_KT_law K F st l1 l2 l3 (fun r u => post 0 (u, vp_updL f (Int32.toNatClampNeg 0) r.toInt64)) (fun E u => (E = "java/lang/IndexOutOfBoundsException" ∧ post 1 (u, f)) ∨ (E = "java/lang/IllegalArgumentException" ∧ post 2 (u, f)) ∨ (E = "java/lang/IllegalStateException" ∧ post 3 (u, f)))
set_option maxRecDepth 100000 in
set_option maxHeartbeats 4000000 in
theorem c_Lw_law (hl0 : l.stackTraces = false) {st : jS} {f : Nat → Int64} {l1 : Int32} {l2 : Int32} {l3 : Int32} {post : Int32 → jS × (Nat → Int64) → Prop} (h : wp_Lw_law K F st f l1 l2 l3 post) : jr_Ni l yLw_law wLw_law ({ frames := 8, cells := 5, slots := 30, locals := 136 }) [.ref (ad 0), .int l1, .int l2, .int l3, .ref ao] D kC (kT cI cII cL cJ) (kW cI cII cL ad K F (oC cJ ao f :: fr) st) (kS sa) (oW cI cII cL cJ ad ao K F fr) post 5 30 := by
  refine jr_ofWi (cc := bLw_law) (nL := 6) (lv := [(0, .ref (ad 0)), (1, .int l1), (2, .int l2), (3, .int l3), (4, .ref ao)]) (by decide) rfl (Nat.le_of_ble_eq_true rfl) rfl (fun p e s m args below meth c A C hr hlocks htb hZ hs9 hnc => ?_)
  unfold wp_Lw_law at h
  refine jr_aload (q := 4) C dLw_law_0 rfl ?_
  refine jr_iconst (v := 0) C dLw_law_2 (by decide) ?_
  refine jr_aload_n (q := 0) C dLw_law_3 rfl rfl ?_
  refine jr_iload_n (q := 1) C dLw_law_4 rfl rfl ?_
  refine jr_iload_n (q := 2) C dLw_law_5 rfl rfl ?_
  refine jr_iload_n (q := 3) C dLw_law_6 rfl rfl ?_
  refine jr_callCi (wf := kW cI cII cL ad K F (oC cJ ao f :: fr)) (As := [.int l1, .int l2, .int l3]) (rest := [.int 0, .ref ao]) C hZ hs9 (c_KT_law hl0 h) (cwV 3 C.2.2.2.2.1 (tg_V tm3_76 tm3_77 tm3_78 tm1_1 tm3_79) rfl rfl rfl ⟨rfl, by decide, by decide, by decide⟩ ⟨Nat.le_of_ble_eq_true rfl, Nat.le_of_ble_eq_true rfl⟩) dLw_law_7 (rfl : kC[0]? = _) kA_0 rfl rfl (Nat.le_of_ble_eq_true rfl) ⟨Nat.le_of_ble_eq_true rfl, Nat.le_of_ble_eq_true rfl⟩ (fun E u h => ?_) (fun r u h => ?_)
  · rcases h with ⟨rfl, h⟩ | ⟨rfl, h⟩ | ⟨rfl, h⟩
    · refine jr_catch (name := "java/lang/IndexOutOfBoundsException") C [] ⟨0, 12, 15, 13⟩ [⟨0, 12, 19, 21⟩, ⟨0, 12, 23, 15⟩] htb (fun z hz => nomatch hz) (by decide) (by decide) (List.mem_cons_of_mem _ tm1_193) (va_Nw.use rfl (C.2.2.2.2.2.2.2 _ (List.mem_of_getElem? (i := 0) rfl))) (fun q => ?_)
      refine jr_astore (lv' := [(5, .ref q), (0, .ref (ad 0)), (1, .int l1), (2, .int l2), (3, .int l3), (4, .ref ao)]) C dLw_law_15 (by decide) rfl ?_
      refine jr_iconst (v := 1) C dLw_law_17 (by decide) ?_
      exact jr_retNi (u := (u, f)) C hr hlocks dLw_law_18 (Nat.le_of_ble_eq_true rfl) (Nat.le_of_ble_eq_true rfl) h rfl
    · refine jr_catch (name := "java/lang/IllegalArgumentException") C [⟨0, 12, 15, 13⟩] ⟨0, 12, 19, 21⟩ [⟨0, 12, 23, 15⟩] htb (fun z hz => by rcases List.mem_cons.mp hz with rfl | hz; exact ⟨by decide, "java/lang/IndexOutOfBoundsException", List.mem_cons_of_mem _ tm1_193, hnc ("java/lang/IllegalArgumentException", "java/lang/IndexOutOfBoundsException") (List.mem_of_getElem? (i := 1) rfl)⟩; exact nomatch hz) (by decide) (by decide) (List.mem_cons_of_mem _ tm2_58) (va_Nw.use rfl (C.2.2.2.2.2.2.2 _ (List.mem_of_getElem? (i := 8) rfl))) (fun q => ?_)
      refine jr_astore (lv' := [(5, .ref q), (0, .ref (ad 0)), (1, .int l1), (2, .int l2), (3, .int l3), (4, .ref ao)]) C dLw_law_19 (by decide) rfl ?_
      refine jr_iconst (v := 2) C dLw_law_21 (by decide) ?_
      exact jr_retNi (u := (u, f)) C hr hlocks dLw_law_22 (Nat.le_of_ble_eq_true rfl) (Nat.le_of_ble_eq_true rfl) h rfl
    · refine jr_catch (name := "java/lang/IllegalStateException") C [⟨0, 12, 15, 13⟩, ⟨0, 12, 19, 21⟩] ⟨0, 12, 23, 15⟩ [] htb (fun z hz => by rcases List.mem_cons.mp hz with rfl | hz; exact ⟨by decide, "java/lang/IndexOutOfBoundsException", List.mem_cons_of_mem _ tm1_193, hnc ("java/lang/IllegalStateException", "java/lang/IndexOutOfBoundsException") (List.mem_of_getElem? (i := 3) rfl)⟩; rcases List.mem_cons.mp hz with rfl | hz; exact ⟨by decide, "java/lang/IllegalArgumentException", List.mem_cons_of_mem _ tm2_58, hnc ("java/lang/IllegalStateException", "java/lang/IllegalArgumentException") (List.mem_of_getElem? (i := 2) rfl)⟩; exact nomatch hz) (by decide) (by decide) (List.mem_cons_of_mem _ tm1_194) (va_Nw.use rfl (C.2.2.2.2.2.2.2 _ (List.mem_of_getElem? (i := 7) rfl))) (fun q => ?_)
      refine jr_astore (lv' := [(5, .ref q), (0, .ref (ad 0)), (1, .int l1), (2, .int l2), (3, .int l3), (4, .ref ao)]) C dLw_law_23 (by decide) rfl ?_
      refine jr_iconst (v := 3) C dLw_law_25 (by decide) ?_
      exact jr_retNi (u := (u, f)) C hr hlocks dLw_law_26 (Nat.le_of_ble_eq_true rfl) (Nat.le_of_ble_eq_true rfl) h rfl
  · refine jr_i2l C dLw_law_10 ?_
    refine jr_last (t0 := 3) C dLw_law_11 oA rfl vi_01 ?_
    refine jr_ws oP ?_
    refine jr_goto (tgt := 27) C dLw_law_12 (by decide) ?_
    refine jr_iconst (v := 0) C dLw_law_27 (by decide) ?_
    exact jr_retNi (u := (u, vp_updL f (Int32.toNatClampNeg 0) r.toInt64)) C hr hlocks dLw_law_28 (Nat.le_of_ble_eq_true rfl) (Nat.le_of_ble_eq_true rfl) h rfl
def wp_Lw_strength (K F : Nat) (st : jS) (f : Nat → Int64) (l1 : Int32) (l2 : Int32) (post : Int32 → jS × (Nat → Int64) → Prop) : Prop :=
  wp_KT_strength K F st l1 l2 (fun r u => post 0 (u, vp_updL f (Int32.toNatClampNeg 0) r.toInt64)) (fun E u => (E = "java/lang/IndexOutOfBoundsException" ∧ post 1 (u, f)))
set_option maxRecDepth 100000 in
set_option maxHeartbeats 4000000 in
theorem c_Lw_strength (hl0 : l.stackTraces = false) {st : jS} {f : Nat → Int64} {l1 : Int32} {l2 : Int32} {post : Int32 → jS × (Nat → Int64) → Prop} (h : wp_Lw_strength K F st f l1 l2 post) : jr_Ni l yLw_strength wLw_strength ({ frames := 8, cells := 1, slots := 6, locals := 133 }) [.ref (ad 0), .int l1, .int l2, .ref ao] D kC (kT cI cII cL cJ) (kW cI cII cL ad K F (oC cJ ao f :: fr) st) (kS sa) (oW cI cII cL cJ ad ao K F fr) post 1 6 := by
  refine jr_ofWi (cc := bLw_strength) (nL := 5) (lv := [(0, .ref (ad 0)), (1, .int l1), (2, .int l2), (3, .ref ao)]) (by decide) rfl (Nat.le_of_ble_eq_true rfl) rfl (fun p e s m args below meth c A C hr hlocks htb hZ hs9 hnc => ?_)
  unfold wp_Lw_strength at h
  refine jr_aload_n (q := 3) C dLw_strength_0 rfl rfl ?_
  refine jr_iconst (v := 0) C dLw_strength_1 (by decide) ?_
  refine jr_aload_n (q := 0) C dLw_strength_2 rfl rfl ?_
  refine jr_iload_n (q := 1) C dLw_strength_3 rfl rfl ?_
  refine jr_iload_n (q := 2) C dLw_strength_4 rfl rfl ?_
  refine jr_callCi (wf := kW cI cII cL ad K F (oC cJ ao f :: fr)) (As := [.int l1, .int l2]) (rest := [.int 0, .ref ao]) C hZ hs9 (c_KT_strength hl0 h) (cwV 2 C.2.2.2.2.1 (tg_V tm3_93 tm3_94 tm3_95 tm1_1 tm3_96) rfl rfl rfl ⟨rfl, by decide, by decide, by decide⟩ ⟨Nat.le_of_ble_eq_true rfl, Nat.le_of_ble_eq_true rfl⟩) dLw_strength_5 (rfl : kC[0]? = _) kA_0 rfl rfl (Nat.le_of_ble_eq_true rfl) ⟨Nat.le_of_ble_eq_true rfl, Nat.le_of_ble_eq_true rfl⟩ (fun E u h => ?_) (fun r u h => ?_)
  · rcases h with ⟨rfl, h⟩
    · refine jr_catch (name := "java/lang/IndexOutOfBoundsException") C [] ⟨0, 10, 13, 13⟩ [] htb (fun z hz => nomatch hz) (by decide) (by decide) (List.mem_cons_of_mem _ tm1_193) (va_Nw.use rfl (C.2.2.2.2.2.2.2 _ (List.mem_of_getElem? (i := 0) rfl))) (fun q => ?_)
      refine jr_astore (lv' := [(4, .ref q), (0, .ref (ad 0)), (1, .int l1), (2, .int l2), (3, .ref ao)]) C dLw_strength_13 (by decide) rfl ?_
      refine jr_iconst (v := 1) C dLw_strength_15 (by decide) ?_
      exact jr_retNi (u := (u, f)) C hr hlocks dLw_strength_16 (Nat.le_of_ble_eq_true rfl) (Nat.le_of_ble_eq_true rfl) h rfl
  · refine jr_i2l C dLw_strength_8 ?_
    refine jr_last (t0 := 3) C dLw_strength_9 oA rfl vi_01 ?_
    refine jr_ws oP ?_
    refine jr_goto (tgt := 17) C dLw_strength_10 (by decide) ?_
    refine jr_iconst (v := 0) C dLw_strength_17 (by decide) ?_
    exact jr_retNi (u := (u, vp_updL f (Int32.toNatClampNeg 0) r.toInt64)) C hr hlocks dLw_strength_18 (Nat.le_of_ble_eq_true rfl) (Nat.le_of_ble_eq_true rfl) h rfl
def wp_Lw_length (K F : Nat) (st : jS) (f : Nat → Int64) (l1 : Int32) (l2 : Int32) (post : Int32 → jS × (Nat → Int64) → Prop) : Prop :=
  wp_KT_length K F st l1 l2 (fun r u => post 0 (u, vp_updL f (Int32.toNatClampNeg 0) r.toInt64)) (fun E u => (E = "java/lang/IndexOutOfBoundsException" ∧ post 1 (u, f)))
set_option maxRecDepth 100000 in
set_option maxHeartbeats 4000000 in
theorem c_Lw_length (hl0 : l.stackTraces = false) {st : jS} {f : Nat → Int64} {l1 : Int32} {l2 : Int32} {post : Int32 → jS × (Nat → Int64) → Prop} (h : wp_Lw_length K F st f l1 l2 post) : jr_Ni l yLw_length wLw_length ({ frames := 8, cells := 1, slots := 6, locals := 133 }) [.ref (ad 0), .int l1, .int l2, .ref ao] D kC (kT cI cII cL cJ) (kW cI cII cL ad K F (oC cJ ao f :: fr) st) (kS sa) (oW cI cII cL cJ ad ao K F fr) post 1 6 := by
  refine jr_ofWi (cc := bLw_length) (nL := 5) (lv := [(0, .ref (ad 0)), (1, .int l1), (2, .int l2), (3, .ref ao)]) (by decide) rfl (Nat.le_of_ble_eq_true rfl) rfl (fun p e s m args below meth c A C hr hlocks htb hZ hs9 hnc => ?_)
  unfold wp_Lw_length at h
  refine jr_aload_n (q := 3) C dLw_length_0 rfl rfl ?_
  refine jr_iconst (v := 0) C dLw_length_1 (by decide) ?_
  refine jr_aload_n (q := 0) C dLw_length_2 rfl rfl ?_
  refine jr_iload_n (q := 1) C dLw_length_3 rfl rfl ?_
  refine jr_iload_n (q := 2) C dLw_length_4 rfl rfl ?_
  refine jr_callCi (wf := kW cI cII cL ad K F (oC cJ ao f :: fr)) (As := [.int l1, .int l2]) (rest := [.int 0, .ref ao]) C hZ hs9 (c_KT_length hl0 h) (cwV 2 C.2.2.2.2.1 (tg_V tm3_111 tm3_112 tm3_113 tm1_1 tm3_114) rfl rfl rfl ⟨rfl, by decide, by decide, by decide⟩ ⟨Nat.le_of_ble_eq_true rfl, Nat.le_of_ble_eq_true rfl⟩) dLw_length_5 (rfl : kC[0]? = _) kA_0 rfl rfl (Nat.le_of_ble_eq_true rfl) ⟨Nat.le_of_ble_eq_true rfl, Nat.le_of_ble_eq_true rfl⟩ (fun E u h => ?_) (fun r u h => ?_)
  · rcases h with ⟨rfl, h⟩
    · refine jr_catch (name := "java/lang/IndexOutOfBoundsException") C [] ⟨0, 10, 13, 13⟩ [] htb (fun z hz => nomatch hz) (by decide) (by decide) (List.mem_cons_of_mem _ tm1_193) (va_Nw.use rfl (C.2.2.2.2.2.2.2 _ (List.mem_of_getElem? (i := 0) rfl))) (fun q => ?_)
      refine jr_astore (lv' := [(4, .ref q), (0, .ref (ad 0)), (1, .int l1), (2, .int l2), (3, .ref ao)]) C dLw_length_13 (by decide) rfl ?_
      refine jr_iconst (v := 1) C dLw_length_15 (by decide) ?_
      exact jr_retNi (u := (u, f)) C hr hlocks dLw_length_16 (Nat.le_of_ble_eq_true rfl) (Nat.le_of_ble_eq_true rfl) h rfl
  · refine jr_i2l C dLw_length_8 ?_
    refine jr_last (t0 := 3) C dLw_length_9 oA rfl vi_01 ?_
    refine jr_ws oP ?_
    refine jr_goto (tgt := 17) C dLw_length_10 (by decide) ?_
    refine jr_iconst (v := 0) C dLw_length_17 (by decide) ?_
    exact jr_retNi (u := (u, vp_updL f (Int32.toNatClampNeg 0) r.toInt64)) C hr hlocks dLw_length_18 (Nat.le_of_ble_eq_true rfl) (Nat.le_of_ble_eq_true rfl) h rfl
end LW
