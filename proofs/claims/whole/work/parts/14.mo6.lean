section MO
variable {l : Launch} {D : va_G} {cI cII cL cJ : ClassId} {ad : Nat → Nat} {fr : va_W}
def wp_Mo_all_5 (post : Int64 → jS → Prop) : Nat → jS → Int32 → Int64 → Int32 → Prop
  | 0 => fun _ _ _ _ => False
  | n + 1 => fun st x1 x2 x4 => (((st 0 1) ≤ x4 → post x2 st) ∧ (¬ (st 0 1) ≤ x4 → vp_in (((6 : Int32) * x1) + x4) 72 ∧ wp_Mo_all_5 post n st x1 (x2 + (Int32.toInt64 (st 7 (Int32.toNatClampNeg (((6 : Int32) * x1) + x4))))) (x4 + (1 : Int32))))
def wp_Mo_all (st : jS) (l1 : Int32) (post : Int64 → jS → Prop) : Prop :=
  (∃ n4, wp_Mo_all_5 post n4 st l1 (0 : Int64) (0 : Int32))
set_option maxRecDepth 100000 in
set_option maxHeartbeats 4000000 in
theorem c_Mo_all {st : jS} {l1 : Int32} {post : Int64 → jS → Prop} (h : wp_Mo_all st l1 post) : jr_Ml l yMo_all wMo_all ({ frames := 0, cells := 0, slots := 0, locals := 0 }) [.ref (ad 0), .int l1] D kC (kT cI cII cL cJ) (mW cI ad fr st) (mW cI ad fr) post := by
  refine jr_ofl (cc := bMo_all) (nL := 5) (lv := [(0, .ref (ad 0)), (1, .int l1)]) (by decide) rfl (Nat.le_of_ble_eq_true rfl) rfl (fun p e s m args below meth c A C hr hlocks => ?_)
  unfold wp_Mo_all at h
  refine jr_lconst (v := 0) C dMo_all_0 (by decide) ?_
  refine jr_lstore_n (lv' := [(2, .long (0 : Int64)), (0, .ref (ad 0)), (1, .int l1)]) C dMo_all_1 rfl (by decide) rfl ?_
  refine jr_iconst (v := 0) C dMo_all_2 (by decide) ?_
  refine jr_istore (lv' := [(4, .int (0 : Int32)), (2, .long (0 : Int64)), (0, .ref (ad 0)), (1, .int l1)]) C dMo_all_3 (by decide) rfl ?_
  have lp2 : ∀ (n : Nat) (st : jS) (x1 : Int32) (x2 : Int64) (x4 : Int32), wp_Mo_all_5 post n st x1 x2 x4 → jr_J p l e (headSpec wMo_all ({ frames := 0, cells := 0, slots := 0, locals := 0 })).room s m args below meth c A D kC 5 0 0 (MQ below (va_Ql post (jr_B D kC (kT cI cII cL cJ) (mW cI ad fr) A) A) args s 0 0 A) (mW cI ad fr st) 5 [(0, .ref (ad 0)), (1, .int x1), (2, .long x2), (4, .int x4)] [] := by
    intro n
    induction n with
    | zero => intro st x1 x2 x4 h; exact h.elim
    | succ n ih =>
      intro st x1 x2 x4 h
      unfold wp_Mo_all_5 at h
      refine jr_iload (q := 3) C dMo_all_5 rfl ?_
      refine jr_aload_n (q := 0) C dMo_all_7 rfl rfl ?_
      refine jr_getf (k := 1) C dMo_all_8 inw_Mo (rfl : kC[5]? = _) (by decide) (List.mem_cons_of_mem _ tm3_130) rfl mA_0 rfl ?_
      refine jr_icmp_ge (tgt := 36) C dMo_all_11 (by decide) (fun z => ?_) (fun z => ?_)
      · have h := h.1 z
        refine jr_lload_n (q := 2) C dMo_all_36 rfl rfl ?_
        exact jr_retl C hr hlocks dMo_all_37 h rfl
      · have h := h.2 z
        refine jr_lload_n (q := 2) C dMo_all_14 rfl rfl ?_
        refine jr_aload_n (q := 0) C dMo_all_15 rfl rfl ?_
        refine jr_getf (k := 12) C dMo_all_16 inw_Mo (rfl : kC[5]? = _) (by decide) (List.mem_cons_of_mem _ tm3_141) rfl mA_0 rfl ?_
        refine jr_bipush (v := 6) C dMo_all_19 (by decide) ?_
        refine jr_iload_n (q := 1) C dMo_all_21 rfl rfl ?_
        refine jr_imul C dMo_all_22 ?_
        refine jr_iload (q := 3) C dMo_all_23 rfl ?_
        refine jr_iadd C dMo_all_25 ?_
        obtain ⟨h1, h⟩ := h
        refine jr_iald (t0 := 0) C dMo_all_26 mA_7 rfl h1 ?_
        refine jr_i2l C dMo_all_27 ?_
        refine jr_ladd C dMo_all_28 ?_
        refine jr_lstore_n (lv' := [(2, .long (x2 + (Int32.toInt64 (st 7 (Int32.toNatClampNeg (((6 : Int32) * x1) + x4)))))), (0, .ref (ad 0)), (1, .int x1), (4, .int x4)]) C dMo_all_29 rfl (by decide) rfl ?_
        refine jr_iinc (q := 3) (v := (x4 + (1 : Int32))) (lv' := [(4, .int (x4 + (1 : Int32))), (2, .long (x2 + (Int32.toInt64 (st 7 (Int32.toNatClampNeg (((6 : Int32) * x1) + x4)))))), (0, .ref (ad 0)), (1, .int x1)]) C dMo_all_30 rfl rfl (by decide) rfl ?_
        refine jr_goto (tgt := 5) C dMo_all_33 (by decide) ?_
        refine jr_lv (lv' := [(0, .ref (ad 0)), (1, .int x1), (2, .long (x2 + (Int32.toInt64 (st 7 (Int32.toNatClampNeg (((6 : Int32) * x1) + x4)))))), (4, .int (x4 + (1 : Int32)))]) [2, 3, 1, 0] rfl ?_
        exact ih st x1 (x2 + (Int32.toInt64 (st 7 (Int32.toNatClampNeg (((6 : Int32) * x1) + x4))))) (x4 + (1 : Int32)) h
  obtain ⟨n3, h⟩ := h
  refine jr_lv (lv' := [(0, .ref (ad 0)), (1, .int l1), (2, .long (0 : Int64)), (4, .int (0 : Int32))]) [2, 3, 1, 0] rfl ?_
  exact lp2 n3 st l1 (0 : Int64) (0 : Int32) h
def wp_Mo_square (st : jS) (l1 : Int32) (l2 : Int32) (l3 : Int32) (post : Int64 → jS → Prop) : Prop :=
  vp_in l1 12 ∧ vp_in l1 12 ∧ vp_in l1 12 ∧ vp_in l1 12 ∧ post (((Int32.toInt64 ((st 5 (Int32.toNatClampNeg l1)) - l2)) * (Int32.toInt64 ((st 5 (Int32.toNatClampNeg l1)) - l2))) + ((Int32.toInt64 ((st 6 (Int32.toNatClampNeg l1)) - l3)) * (Int32.toInt64 ((st 6 (Int32.toNatClampNeg l1)) - l3)))) st
set_option maxRecDepth 100000 in
set_option maxHeartbeats 4000000 in
theorem c_Mo_square {st : jS} {l1 : Int32} {l2 : Int32} {l3 : Int32} {post : Int64 → jS → Prop} (h : wp_Mo_square st l1 l2 l3 post) : jr_Ml l yMo_square wMo_square ({ frames := 0, cells := 0, slots := 0, locals := 0 }) [.ref (ad 0), .int l1, .int l2, .int l3] D kC (kT cI cII cL cJ) (mW cI ad fr st) (mW cI ad fr) post := by
  refine jr_ofl (cc := bMo_square) (nL := 4) (lv := [(0, .ref (ad 0)), (1, .int l1), (2, .int l2), (3, .int l3)]) (by decide) rfl (Nat.le_of_ble_eq_true rfl) rfl (fun p e s m args below meth c A C hr hlocks => ?_)
  unfold wp_Mo_square at h
  refine jr_aload_n (q := 0) C dMo_square_0 rfl rfl ?_
  refine jr_getf (k := 10) C dMo_square_1 inw_Mo (rfl : kC[5]? = _) (by decide) (List.mem_cons_of_mem _ tm3_139) rfl mA_0 rfl ?_
  refine jr_iload_n (q := 1) C dMo_square_4 rfl rfl ?_
  obtain ⟨h1, h⟩ := h
  refine jr_iald (t0 := 0) C dMo_square_5 mA_5 rfl h1 ?_
  refine jr_iload_n (q := 2) C dMo_square_6 rfl rfl ?_
  refine jr_isub C dMo_square_7 ?_
  refine jr_i2l C dMo_square_8 ?_
  refine jr_aload_n (q := 0) C dMo_square_9 rfl rfl ?_
  refine jr_getf (k := 10) C dMo_square_10 inw_Mo (rfl : kC[5]? = _) (by decide) (List.mem_cons_of_mem _ tm3_139) rfl mA_0 rfl ?_
  refine jr_iload_n (q := 1) C dMo_square_13 rfl rfl ?_
  obtain ⟨h2, h⟩ := h
  refine jr_iald (t0 := 0) C dMo_square_14 mA_5 rfl h2 ?_
  refine jr_iload_n (q := 2) C dMo_square_15 rfl rfl ?_
  refine jr_isub C dMo_square_16 ?_
  refine jr_i2l C dMo_square_17 ?_
  refine jr_lmul C dMo_square_18 ?_
  refine jr_aload_n (q := 0) C dMo_square_19 rfl rfl ?_
  refine jr_getf (k := 11) C dMo_square_20 inw_Mo (rfl : kC[5]? = _) (by decide) (List.mem_cons_of_mem _ tm3_140) rfl mA_0 rfl ?_
  refine jr_iload_n (q := 1) C dMo_square_23 rfl rfl ?_
  obtain ⟨h3, h⟩ := h
  refine jr_iald (t0 := 0) C dMo_square_24 mA_6 rfl h3 ?_
  refine jr_iload_n (q := 3) C dMo_square_25 rfl rfl ?_
  refine jr_isub C dMo_square_26 ?_
  refine jr_i2l C dMo_square_27 ?_
  refine jr_aload_n (q := 0) C dMo_square_28 rfl rfl ?_
  refine jr_getf (k := 11) C dMo_square_29 inw_Mo (rfl : kC[5]? = _) (by decide) (List.mem_cons_of_mem _ tm3_140) rfl mA_0 rfl ?_
  refine jr_iload_n (q := 1) C dMo_square_32 rfl rfl ?_
  obtain ⟨h4, h⟩ := h
  refine jr_iald (t0 := 0) C dMo_square_33 mA_6 rfl h4 ?_
  refine jr_iload_n (q := 3) C dMo_square_34 rfl rfl ?_
  refine jr_isub C dMo_square_35 ?_
  refine jr_i2l C dMo_square_36 ?_
  refine jr_lmul C dMo_square_37 ?_
  refine jr_ladd C dMo_square_38 ?_
  exact jr_retl C hr hlocks dMo_square_39 h rfl
def wp_Mo_nearHaul_11 (post : Int32 → jS → Prop) : Nat → jS → Int32 → Int32 → Int32 → Int32 → Int32 → Prop
  | 0 => fun _ _ _ _ _ _ => False
  | n + 1 => fun st x1 x2 x3 x4 x5 => ((x5 < 0 → post x4 st) ∧ (¬ x5 < 0 → ((x5 = x3 → wp_Mo_nearHaul_11 post n st x1 x2 x3 x4 (x5 + (-1 : Int32))) ∧ (¬ x5 = x3 → wp_Mo_all st x5 (fun r2 st1 => (((lg_cmp r2 (0 : Int64)) ≤ 0 → wp_Mo_nearHaul_11 post n st1 x1 x2 x3 x4 (x5 + (-1 : Int32))) ∧ (¬ (lg_cmp r2 (0 : Int64)) ≤ 0 → ((x4 = (-1 : Int32) → wp_Mo_nearHaul_11 post n st1 x1 x2 x3 x5 (x5 + (-1 : Int32))) ∧ (¬ x4 = (-1 : Int32) → wp_Mo_square st1 x5 x1 x2 (fun r4 st3 => wp_Mo_square st3 x4 x1 x2 (fun r6 st5 => ((0 < (lg_cmp r4 r6) → wp_Mo_nearHaul_11 post n st5 x1 x2 x3 x4 (x5 + (-1 : Int32))) ∧ (¬ 0 < (lg_cmp r4 r6) → wp_Mo_nearHaul_11 post n st5 x1 x2 x3 x5 (x5 + (-1 : Int32)))))))))))))))
def wp_Mo_nearHaul (st : jS) (l1 : Int32) (l2 : Int32) (l3 : Int32) (post : Int32 → jS → Prop) : Prop :=
  (∃ n9, wp_Mo_nearHaul_11 post n9 st l1 l2 l3 (-1 : Int32) ((st 0 9) - (1 : Int32)))
set_option maxRecDepth 100000 in
set_option maxHeartbeats 4000000 in
theorem c_Mo_nearHaul {st : jS} {l1 : Int32} {l2 : Int32} {l3 : Int32} {post : Int32 → jS → Prop} (h : wp_Mo_nearHaul st l1 l2 l3 post) : jr_Mi l yMo_nearHaul wMo_nearHaul ({ frames := 1, cells := 0, slots := 0, locals := 24 }) [.ref (ad 0), .int l1, .int l2, .int l3] D kC (kT cI cII cL cJ) (mW cI ad fr st) (mW cI ad fr) post := by
  refine jr_ofi (cc := bMo_nearHaul) (nL := 6) (lv := [(0, .ref (ad 0)), (1, .int l1), (2, .int l2), (3, .int l3)]) (by decide) rfl (Nat.le_of_ble_eq_true rfl) rfl (fun p e s m args below meth c A C hr hlocks => ?_)
  unfold wp_Mo_nearHaul at h
  refine jr_iconst (v := -1) C dMo_nearHaul_0 (by decide) ?_
  refine jr_istore (lv' := [(4, .int (-1 : Int32)), (0, .ref (ad 0)), (1, .int l1), (2, .int l2), (3, .int l3)]) C dMo_nearHaul_1 (by decide) rfl ?_
  refine jr_aload_n (q := 1) C dMo_nearHaul_3 rfl rfl ?_
  refine jr_getf (k := 9) C dMo_nearHaul_4 inw_Mo (rfl : kC[5]? = _) (by decide) (List.mem_cons_of_mem _ tm3_138) rfl mA_0 rfl ?_
  refine jr_iconst (v := 1) C dMo_nearHaul_7 (by decide) ?_
  refine jr_isub C dMo_nearHaul_8 ?_
  refine jr_istore (lv' := [(5, .int ((st 0 9) - (1 : Int32))), (4, .int (-1 : Int32)), (0, .ref (ad 0)), (1, .int l1), (2, .int l2), (3, .int l3)]) C dMo_nearHaul_9 (by decide) rfl ?_
  have lp7 : ∀ (n : Nat) (st : jS) (x1 : Int32) (x2 : Int32) (x3 : Int32) (x4 : Int32) (x5 : Int32), wp_Mo_nearHaul_11 post n st x1 x2 x3 x4 x5 → jr_J p l e (headSpec wMo_nearHaul ({ frames := 1, cells := 0, slots := 0, locals := 24 })).room s m args below meth c A D kC 6 0 0 (MQ below (va_Qi post (jr_B D kC (kT cI cII cL cJ) (mW cI ad fr) A) A) args s 0 0 A) (mW cI ad fr st) 11 [(0, .ref (ad 0)), (1, .int x1), (2, .int x2), (3, .int x3), (4, .int x4), (5, .int x5)] [] := by
    intro n
    induction n with
    | zero => intro st x1 x2 x3 x4 x5 h; exact h.elim
    | succ n ih =>
      intro st x1 x2 x3 x4 x5 h
      unfold wp_Mo_nearHaul_11 at h
      refine jr_iload (q := 5) C dMo_nearHaul_11 rfl ?_
      refine jr_if_lt (tgt := 74) C dMo_nearHaul_13 (by decide) (fun z => ?_) (fun z => ?_)
      · have h := h.1 z
        refine jr_iload (q := 4) C dMo_nearHaul_74 rfl ?_
        exact jr_reti C hr hlocks dMo_nearHaul_76 h rfl
      · have h := h.2 z
        refine jr_iload (q := 5) C dMo_nearHaul_16 rfl ?_
        refine jr_iload_n (q := 3) C dMo_nearHaul_18 rfl rfl ?_
        refine jr_icmp_eq (tgt := 64) C dMo_nearHaul_19 (by decide) (fun z => ?_) (fun z => ?_)
        · have h := h.1 z
          refine jr_iload (q := 4) C dMo_nearHaul_64 rfl ?_
          refine jr_istore (lv' := [(4, .int x4), (0, .ref (ad 0)), (1, .int x1), (2, .int x2), (3, .int x3), (5, .int x5)]) C dMo_nearHaul_66 (by decide) rfl ?_
          refine jr_iinc (q := 5) (v := (x5 + (-1 : Int32))) (lv' := [(5, .int (x5 + (-1 : Int32))), (4, .int x4), (0, .ref (ad 0)), (1, .int x1), (2, .int x2), (3, .int x3)]) C dMo_nearHaul_68 rfl rfl (by decide) rfl ?_
          refine jr_goto (tgt := 11) C dMo_nearHaul_71 (by decide) ?_
          refine jr_lv (lv' := [(0, .ref (ad 0)), (1, .int x1), (2, .int x2), (3, .int x3), (4, .int x4), (5, .int (x5 + (-1 : Int32)))]) [2, 3, 4, 5, 1, 0] rfl ?_
          exact ih st x1 x2 x3 x4 (x5 + (-1 : Int32)) h
        · have h := h.2 z
          refine jr_aload_n (q := 0) C dMo_nearHaul_22 rfl rfl ?_
          refine jr_iload (q := 5) C dMo_nearHaul_23 rfl ?_
          refine jr_callVl (As := [.int x5]) (rest := []) C (c_Mo_all h) (cwV 1 C.2.2.2.2.1 (tg_V tm4_78 tm4_80 tp_29 tm1_7 tm4_81) rfl rfl rfl ⟨rfl, by decide, by decide, by decide⟩ ⟨Nat.le_of_ble_eq_true rfl, Nat.le_of_ble_eq_true rfl⟩) dMo_nearHaul_25 (rfl : kC[5]? = _) mA_0 rfl rfl (Nat.le_of_ble_eq_true rfl) ⟨Nat.le_of_ble_eq_true rfl, Nat.le_of_ble_eq_true rfl⟩ (fun r2 st1 h => ?_)
          refine jr_lconst (v := 0) C dMo_nearHaul_28 (by decide) ?_
          refine jr_lcmp C dMo_nearHaul_29 ?_
          refine jr_if_le (tgt := 64) C dMo_nearHaul_30 (by decide) (fun z => ?_) (fun z => ?_)
          · have h := h.1 z
            refine jr_iload (q := 4) C dMo_nearHaul_64 rfl ?_
            refine jr_istore (lv' := [(4, .int x4), (0, .ref (ad 0)), (1, .int x1), (2, .int x2), (3, .int x3), (5, .int x5)]) C dMo_nearHaul_66 (by decide) rfl ?_
            refine jr_iinc (q := 5) (v := (x5 + (-1 : Int32))) (lv' := [(5, .int (x5 + (-1 : Int32))), (4, .int x4), (0, .ref (ad 0)), (1, .int x1), (2, .int x2), (3, .int x3)]) C dMo_nearHaul_68 rfl rfl (by decide) rfl ?_
            refine jr_goto (tgt := 11) C dMo_nearHaul_71 (by decide) ?_
            refine jr_lv (lv' := [(0, .ref (ad 0)), (1, .int x1), (2, .int x2), (3, .int x3), (4, .int x4), (5, .int (x5 + (-1 : Int32)))]) [2, 3, 4, 5, 1, 0] rfl ?_
            exact ih st1 x1 x2 x3 x4 (x5 + (-1 : Int32)) h
          · have h := h.2 z
            refine jr_iload (q := 4) C dMo_nearHaul_33 rfl ?_
            refine jr_iconst (v := -1) C dMo_nearHaul_35 (by decide) ?_
            refine jr_icmp_eq (tgt := 59) C dMo_nearHaul_36 (by decide) (fun z => ?_) (fun z => ?_)
            · have h := h.1 z
              refine jr_iload (q := 5) C dMo_nearHaul_59 rfl ?_
              refine jr_goto (tgt := 66) C dMo_nearHaul_61 (by decide) ?_
              refine jr_istore (lv' := [(4, .int x5), (0, .ref (ad 0)), (1, .int x1), (2, .int x2), (3, .int x3), (5, .int x5)]) C dMo_nearHaul_66 (by decide) rfl ?_
              refine jr_iinc (q := 5) (v := (x5 + (-1 : Int32))) (lv' := [(5, .int (x5 + (-1 : Int32))), (4, .int x5), (0, .ref (ad 0)), (1, .int x1), (2, .int x2), (3, .int x3)]) C dMo_nearHaul_68 rfl rfl (by decide) rfl ?_
              refine jr_goto (tgt := 11) C dMo_nearHaul_71 (by decide) ?_
              refine jr_lv (lv' := [(0, .ref (ad 0)), (1, .int x1), (2, .int x2), (3, .int x3), (4, .int x5), (5, .int (x5 + (-1 : Int32)))]) [2, 3, 4, 5, 1, 0] rfl ?_
              exact ih st1 x1 x2 x3 x5 (x5 + (-1 : Int32)) h
            · have h := h.2 z
              refine jr_aload_n (q := 0) C dMo_nearHaul_39 rfl rfl ?_
              refine jr_iload (q := 5) C dMo_nearHaul_40 rfl ?_
              refine jr_iload_n (q := 1) C dMo_nearHaul_42 rfl rfl ?_
              refine jr_iload_n (q := 2) C dMo_nearHaul_43 rfl rfl ?_
              refine jr_callVl (As := [.int x5, .int x1, .int x2]) (rest := []) C (c_Mo_square h) (cwV 3 C.2.2.2.2.1 (tg_V tm4_82 tm4_84 tp_30 tm1_7 tm4_85) rfl rfl rfl ⟨rfl, by decide, by decide, by decide⟩ ⟨Nat.le_of_ble_eq_true rfl, Nat.le_of_ble_eq_true rfl⟩) dMo_nearHaul_44 (rfl : kC[5]? = _) mA_0 rfl rfl (Nat.le_of_ble_eq_true rfl) ⟨Nat.le_of_ble_eq_true rfl, Nat.le_of_ble_eq_true rfl⟩ (fun r4 st3 h => ?_)
              refine jr_aload_n (q := 0) C dMo_nearHaul_47 rfl rfl ?_
              refine jr_iload (q := 4) C dMo_nearHaul_48 rfl ?_
              refine jr_iload_n (q := 1) C dMo_nearHaul_50 rfl rfl ?_
              refine jr_iload_n (q := 2) C dMo_nearHaul_51 rfl rfl ?_
              refine jr_callVl (As := [.int x4, .int x1, .int x2]) (rest := [.long r4]) C (c_Mo_square h) (cwV 3 C.2.2.2.2.1 (tg_V tm4_82 tm4_84 tp_30 tm1_7 tm4_85) rfl rfl rfl ⟨rfl, by decide, by decide, by decide⟩ ⟨Nat.le_of_ble_eq_true rfl, Nat.le_of_ble_eq_true rfl⟩) dMo_nearHaul_52 (rfl : kC[5]? = _) mA_0 rfl rfl (Nat.le_of_ble_eq_true rfl) ⟨Nat.le_of_ble_eq_true rfl, Nat.le_of_ble_eq_true rfl⟩ (fun r6 st5 h => ?_)
              refine jr_lcmp C dMo_nearHaul_55 ?_
              refine jr_if_gt (tgt := 64) C dMo_nearHaul_56 (by decide) (fun z => ?_) (fun z => ?_)
              · have h := h.1 z
                refine jr_iload (q := 4) C dMo_nearHaul_64 rfl ?_
                refine jr_istore (lv' := [(4, .int x4), (0, .ref (ad 0)), (1, .int x1), (2, .int x2), (3, .int x3), (5, .int x5)]) C dMo_nearHaul_66 (by decide) rfl ?_
                refine jr_iinc (q := 5) (v := (x5 + (-1 : Int32))) (lv' := [(5, .int (x5 + (-1 : Int32))), (4, .int x4), (0, .ref (ad 0)), (1, .int x1), (2, .int x2), (3, .int x3)]) C dMo_nearHaul_68 rfl rfl (by decide) rfl ?_
                refine jr_goto (tgt := 11) C dMo_nearHaul_71 (by decide) ?_
                refine jr_lv (lv' := [(0, .ref (ad 0)), (1, .int x1), (2, .int x2), (3, .int x3), (4, .int x4), (5, .int (x5 + (-1 : Int32)))]) [2, 3, 4, 5, 1, 0] rfl ?_
                exact ih st5 x1 x2 x3 x4 (x5 + (-1 : Int32)) h
              · have h := h.2 z
                refine jr_iload (q := 5) C dMo_nearHaul_59 rfl ?_
                refine jr_goto (tgt := 66) C dMo_nearHaul_61 (by decide) ?_
                refine jr_istore (lv' := [(4, .int x5), (0, .ref (ad 0)), (1, .int x1), (2, .int x2), (3, .int x3), (5, .int x5)]) C dMo_nearHaul_66 (by decide) rfl ?_
                refine jr_iinc (q := 5) (v := (x5 + (-1 : Int32))) (lv' := [(5, .int (x5 + (-1 : Int32))), (4, .int x5), (0, .ref (ad 0)), (1, .int x1), (2, .int x2), (3, .int x3)]) C dMo_nearHaul_68 rfl rfl (by decide) rfl ?_
                refine jr_goto (tgt := 11) C dMo_nearHaul_71 (by decide) ?_
                refine jr_lv (lv' := [(0, .ref (ad 0)), (1, .int x1), (2, .int x2), (3, .int x3), (4, .int x5), (5, .int (x5 + (-1 : Int32)))]) [2, 3, 4, 5, 1, 0] rfl ?_
                exact ih st5 x1 x2 x3 x5 (x5 + (-1 : Int32)) h
  obtain ⟨n8, h⟩ := h
  refine jr_lv (lv' := [(0, .ref (ad 0)), (1, .int l1), (2, .int l2), (3, .int l3), (4, .int (-1 : Int32)), (5, .int ((st 0 9) - (1 : Int32)))]) [2, 3, 4, 5, 1, 0] rfl ?_
  exact lp7 n8 st l1 l2 l3 (-1 : Int32) ((st 0 9) - (1 : Int32)) h
def wp_Mo_share (st : jS) (l1 : Int32) (l2 : Int32) (l3 : Int32) (l4 : Int32) (post : Int64 → jS → Prop) : Prop :=
  wp_Mo_isKind st l3 (fun r2 st1 => (∃ j3 : jS → Int32 → Prop, (∀ (st10 : jS) (v11 : Int32), j3 st10 v11 → ((((jq st10 0 0 v11) 0 0) ≤ 0 → wp_Mo_nearHaul (jq st10 0 0 v11) l1 l2 (-1 : Int32) (fun r13 st12 => (∃ j14 : jS → Int32 → Prop, (∀ (st17 : jS) (v18 : Int32), j14 st17 v18 → ((¬ r13 = (-1 : Int32) → ((¬ v18 = (-1 : Int32) → wp_Mo_square st17 r13 l1 l2 (fun r20 st19 => wp_Mo_square st19 v18 l1 l2 (fun r22 st21 => vp_in (((6 : Int32) * r13) + l3) 72 ∧ wp_Mo_all st21 v18 (fun r25 st24 => vp_in (((6 : Int32) * v18) + l3) 72 ∧ wp_Mo_all st24 r13 (fun r28 st27 => wp_Mo_all st27 r13 (fun r30 st29 => wp_Mo_all st29 v18 (fun r32 st31 => wp_Mo_part st31 ((((Int32.toInt64 (st21 7 (Int32.toNatClampNeg (((6 : Int32) * r13) + l3)))) * (r22 + (1 : Int64))) * r25) + (((Int32.toInt64 (st24 7 (Int32.toNatClampNeg (((6 : Int32) * v18) + l3)))) * (r20 + (1 : Int64))) * r28)) ((r30 * r32) * ((r20 + (1 : Int64)) + (r22 + (1 : Int64)))) l4 (fun r34 st33 => post r34 st33)))))))) ∧ (v18 = (-1 : Int32) → vp_in (((6 : Int32) * r13) + l3) 72 ∧ wp_Mo_all st17 r13 (fun r37 st36 => wp_Mo_part st36 (Int32.toInt64 (st17 7 (Int32.toNatClampNeg (((6 : Int32) * r13) + l3)))) r37 l4 (fun r39 st38 => post r39 st38))))) ∧ (r13 = (-1 : Int32) → post (Int32.toInt64 l4) st17))) ∧ ((¬ r13 = (-1 : Int32) → wp_Mo_nearHaul st12 l1 l2 r13 (fun r16 st15 => j14 st15 r16)) ∧ (r13 = (-1 : Int32) → j14 st12 (-1 : Int32)))))) ∧ (¬ ((jq st10 0 0 v11) 0 0) ≤ 0 → post (0 : Int64) (jq st10 0 0 v11)))) ∧ ((r2 = 0 → j3 st1 (1 : Int32)) ∧ (¬ r2 = 0 → wp_Mo_isIn st1 l4 (0 : Int32) (1 : Int32) (fun r5 st4 => ((¬ r5 = 0 → wp_Mo_isIn st4 l1 (-100 : Int32) (100 : Int32) (fun r7 st6 => ((r7 = 0 → j3 st6 (2 : Int32)) ∧ (¬ r7 = 0 → wp_Mo_isIn st6 l2 (-100 : Int32) (100 : Int32) (fun r9 st8 => ((¬ r9 = 0 → j3 st8 (0 : Int32)) ∧ (r9 = 0 → j3 st8 (2 : Int32)))))))) ∧ (r5 = 0 → j3 st4 (1 : Int32))))))))
set_option maxRecDepth 100000 in
set_option maxHeartbeats 4000000 in
theorem c_Mo_share {st : jS} {l1 : Int32} {l2 : Int32} {l3 : Int32} {l4 : Int32} {post : Int64 → jS → Prop} (h : wp_Mo_share st l1 l2 l3 l4 post) : jr_Ml l yMo_share wMo_share ({ frames := 2, cells := 0, slots := 0, locals := 55 }) [.ref (ad 0), .int l1, .int l2, .int l3, .int l4] D kC (kT cI cII cL cJ) (mW cI ad fr st) (mW cI ad fr) post := by
  refine jr_ofl (cc := bMo_share) (nL := 13) (lv := [(0, .ref (ad 0)), (1, .int l1), (2, .int l2), (3, .int l3), (4, .int l4)]) (by decide) rfl (Nat.le_of_ble_eq_true rfl) rfl (fun p e s m args below meth c A C hr hlocks => ?_)
  unfold wp_Mo_share at h
  refine jr_aload_n (q := 0) C dMo_share_0 rfl rfl ?_
  refine jr_aload_n (q := 0) C dMo_share_1 rfl rfl ?_
  refine jr_iload_n (q := 3) C dMo_share_2 rfl rfl ?_
  refine jr_callVi (As := [.int l3]) (rest := [.ref (ad 0)]) C (c_Mo_isKind h) (cwV 1 C.2.2.2.2.1 (tg_V tm3_189 tm3_191 tp_18 tm1_7 tm3_192) rfl rfl rfl ⟨rfl, by decide, by decide, by decide⟩ ⟨Nat.le_of_ble_eq_true rfl, Nat.le_of_ble_eq_true rfl⟩) dMo_share_3 (rfl : kC[5]? = _) mA_0 rfl rfl (Nat.le_of_ble_eq_true rfl) ⟨Nat.le_of_ble_eq_true rfl, Nat.le_of_ble_eq_true rfl⟩ (fun r2 st1 h => ?_)
  obtain ⟨j3, j3r, h⟩ := h
  have hj3 : ∀ (st10 : jS) (v11 : Int32), j3 st10 v11 → jr_J p l e (headSpec wMo_share ({ frames := 2, cells := 0, slots := 0, locals := 55 })).room s m args below meth c A D kC 13 0 0 (MQ below (va_Ql post (jr_B D kC (kT cI cII cL cJ) (mW cI ad fr) A) A) args s 0 0 A) (mW cI ad fr st10) 50 [(0, .ref (ad 0)), (1, .int l1), (2, .int l2), (3, .int l3), (4, .int l4)] [.int v11, .ref (ad 0)] := by
    intro st10 v11 h
    have h := j3r st10 v11 h
    refine jr_putf (k := 0) C dMo_share_50 inw_Mo ty_Mo ty_Mo_ok nm_Mo (rfl : kC[5]? = _) (by decide) (List.mem_cons_of_mem _ tm3_129) rfl rfl (ty := .int) rfl rfl rfl mA_0 (Nat.le_of_ble_eq_true rfl) ?_
    refine jr_ws (ws' := mW cI ad fr (jq st10 0 0 v11)) (mP_0_0) ?_
    refine jr_aload_n (q := 0) C dMo_share_53 rfl rfl ?_
    refine jr_getf (k := 0) C dMo_share_54 inw_Mo (rfl : kC[5]? = _) (by decide) (List.mem_cons_of_mem _ tm3_129) rfl mA_0 rfl ?_
    refine jr_if_le (tgt := 62) C dMo_share_57 (by decide) (fun z => ?_) (fun z => ?_)
    · have h := h.1 z
      refine jr_aload_n (q := 0) C dMo_share_62 rfl rfl ?_
      refine jr_iload_n (q := 1) C dMo_share_63 rfl rfl ?_
      refine jr_iload_n (q := 2) C dMo_share_64 rfl rfl ?_
      refine jr_iconst (v := -1) C dMo_share_65 (by decide) ?_
      refine jr_callVi (As := [.int l1, .int l2, .int (-1 : Int32)]) (rest := []) C (c_Mo_nearHaul h) (cwV 3 C.2.2.2.2.1 (tg_V tm4_74 tm4_76 tp_28 tm1_7 tm4_77) rfl rfl rfl ⟨rfl, by decide, by decide, by decide⟩ ⟨Nat.le_of_ble_eq_true rfl, Nat.le_of_ble_eq_true rfl⟩) dMo_share_66 (rfl : kC[5]? = _) mA_0 rfl rfl (Nat.le_of_ble_eq_true rfl) ⟨Nat.le_of_ble_eq_true rfl, Nat.le_of_ble_eq_true rfl⟩ (fun r13 st12 h => ?_)
      refine jr_istore (lv' := [(5, .int r13), (0, .ref (ad 0)), (1, .int l1), (2, .int l2), (3, .int l3), (4, .int l4)]) C dMo_share_69 (by decide) rfl ?_
      refine jr_iload (q := 0) C dMo_share_71 rfl ?_
      refine jr_iconst (v := -1) C dMo_share_73 (by decide) ?_
      obtain ⟨j14, j14r, h⟩ := h
      have hj14 : ∀ (st17 : jS) (v18 : Int32), j14 st17 v18 → jr_J p l e (headSpec wMo_share ({ frames := 2, cells := 0, slots := 0, locals := 55 })).room s m args below meth c A D kC 13 0 0 (MQ below (va_Ql post (jr_B D kC (kT cI cII cL cJ) (mW cI ad fr) A) A) args s 0 0 A) (mW cI ad fr st17) 89 [(0, .ref (ad 0)), (1, .int l1), (2, .int l2), (3, .int l3), (4, .int l4), (5, .int r13)] [.int v18] := by
        intro st17 v18 h
        have h := j14r st17 v18 h
        refine jr_istore (lv' := [(6, .int v18), (0, .ref (ad 0)), (1, .int l1), (2, .int l2), (3, .int l3), (4, .int l4), (5, .int r13)]) C dMo_share_89 (by decide) rfl ?_
        refine jr_iload (q := 6) C dMo_share_91 rfl ?_
        refine jr_iconst (v := -1) C dMo_share_93 (by decide) ?_
        refine jr_icmp_ne (tgt := 101) C dMo_share_94 (by decide) (fun z => ?_) (fun z => ?_)
        · have h := h.1 z
          refine jr_iload (q := 0) C dMo_share_101 rfl ?_
          refine jr_iconst (v := -1) C dMo_share_103 (by decide) ?_
          refine jr_icmp_ne (tgt := 132) C dMo_share_104 (by decide) (fun z => ?_) (fun z => ?_)
          · have h := h.1 z
            refine jr_aload_n (q := 1) C dMo_share_132 rfl rfl ?_
            refine jr_iload (q := 6) C dMo_share_133 rfl ?_
            refine jr_iload_n (q := 2) C dMo_share_135 rfl rfl ?_
            refine jr_iload_n (q := 3) C dMo_share_136 rfl rfl ?_
            refine jr_callVl (As := [.int r13, .int l1, .int l2]) (rest := []) C (c_Mo_square h) (cwV 3 C.2.2.2.2.1 (tg_V tm4_82 tm4_84 tp_30 tm1_7 tm4_85) rfl rfl rfl ⟨rfl, by decide, by decide, by decide⟩ ⟨Nat.le_of_ble_eq_true rfl, Nat.le_of_ble_eq_true rfl⟩) dMo_share_137 (rfl : kC[5]? = _) mA_0 rfl rfl (Nat.le_of_ble_eq_true rfl) ⟨Nat.le_of_ble_eq_true rfl, Nat.le_of_ble_eq_true rfl⟩ (fun r20 st19 h => ?_)
            refine jr_lconst (v := 1) C dMo_share_140 (by decide) ?_
            refine jr_ladd C dMo_share_141 ?_
            refine jr_lstore (lv' := [(7, .long (r20 + (1 : Int64))), (6, .int v18), (0, .ref (ad 0)), (1, .int l1), (2, .int l2), (3, .int l3), (4, .int l4), (5, .int r13)]) C dMo_share_142 (by decide) rfl ?_
            refine jr_aload_n (q := 2) C dMo_share_144 rfl rfl ?_
            refine jr_iload (q := 1) C dMo_share_145 rfl ?_
            refine jr_iload_n (q := 3) C dMo_share_147 rfl rfl ?_
            refine jr_iload_n (q := 4) C dMo_share_148 rfl rfl ?_
            refine jr_callVl (As := [.int v18, .int l1, .int l2]) (rest := []) C (c_Mo_square h) (cwV 3 C.2.2.2.2.1 (tg_V tm4_82 tm4_84 tp_30 tm1_7 tm4_85) rfl rfl rfl ⟨rfl, by decide, by decide, by decide⟩ ⟨Nat.le_of_ble_eq_true rfl, Nat.le_of_ble_eq_true rfl⟩) dMo_share_149 (rfl : kC[5]? = _) mA_0 rfl rfl (Nat.le_of_ble_eq_true rfl) ⟨Nat.le_of_ble_eq_true rfl, Nat.le_of_ble_eq_true rfl⟩ (fun r22 st21 h => ?_)
            refine jr_lconst (v := 1) C dMo_share_152 (by decide) ?_
            refine jr_ladd C dMo_share_153 ?_
            refine jr_lstore (lv' := [(9, .long (r22 + (1 : Int64))), (7, .long (r20 + (1 : Int64))), (6, .int v18), (0, .ref (ad 0)), (1, .int l1), (2, .int l2), (3, .int l3), (4, .int l4), (5, .int r13)]) C dMo_share_154 (by decide) rfl ?_
            refine jr_aload_n (q := 3) C dMo_share_156 rfl rfl ?_
            refine jr_getf (k := 12) C dMo_share_157 inw_Mo (rfl : kC[5]? = _) (by decide) (List.mem_cons_of_mem _ tm3_141) rfl mA_0 rfl ?_
            refine jr_bipush (v := 6) C dMo_share_160 (by decide) ?_
            refine jr_iload (q := 8) C dMo_share_162 rfl ?_
            refine jr_imul C dMo_share_164 ?_
            refine jr_iload_n (q := 6) C dMo_share_165 rfl rfl ?_
            refine jr_iadd C dMo_share_166 ?_
            obtain ⟨h23, h⟩ := h
            refine jr_iald (t0 := 0) C dMo_share_167 mA_7 rfl h23 ?_
            refine jr_i2l C dMo_share_168 ?_
            refine jr_lload (q := 0) C dMo_share_169 rfl ?_
            refine jr_lmul C dMo_share_171 ?_
            refine jr_aload_n (q := 3) C dMo_share_172 rfl rfl ?_
            refine jr_iload (q := 2) C dMo_share_173 rfl ?_
            refine jr_callVl (As := [.int v18]) (rest := [.long ((Int32.toInt64 (st21 7 (Int32.toNatClampNeg (((6 : Int32) * r13) + l3)))) * (r22 + (1 : Int64)))]) C (c_Mo_all h) (cwV 1 C.2.2.2.2.1 (tg_V tm4_78 tm4_80 tp_29 tm1_7 tm4_81) rfl rfl rfl ⟨rfl, by decide, by decide, by decide⟩ ⟨Nat.le_of_ble_eq_true rfl, Nat.le_of_ble_eq_true rfl⟩) dMo_share_175 (rfl : kC[5]? = _) mA_0 rfl rfl (Nat.le_of_ble_eq_true rfl) ⟨Nat.le_of_ble_eq_true rfl, Nat.le_of_ble_eq_true rfl⟩ (fun r25 st24 h => ?_)
            refine jr_lmul C dMo_share_178 ?_
            refine jr_aload_n (q := 3) C dMo_share_179 rfl rfl ?_
            refine jr_getf (k := 12) C dMo_share_180 inw_Mo (rfl : kC[5]? = _) (by decide) (List.mem_cons_of_mem _ tm3_141) rfl mA_0 rfl ?_
            refine jr_bipush (v := 6) C dMo_share_183 (by decide) ?_
            refine jr_iload (q := 2) C dMo_share_185 rfl ?_
            refine jr_imul C dMo_share_187 ?_
            refine jr_iload_n (q := 6) C dMo_share_188 rfl rfl ?_
            refine jr_iadd C dMo_share_189 ?_
            obtain ⟨h26, h⟩ := h
            refine jr_iald (t0 := 0) C dMo_share_190 mA_7 rfl h26 ?_
            refine jr_i2l C dMo_share_191 ?_
            refine jr_lload (q := 1) C dMo_share_192 rfl ?_
            refine jr_lmul C dMo_share_194 ?_
            refine jr_aload_n (q := 3) C dMo_share_195 rfl rfl ?_
            refine jr_iload (q := 8) C dMo_share_196 rfl ?_
            refine jr_callVl (As := [.int r13]) (rest := [.long ((Int32.toInt64 (st24 7 (Int32.toNatClampNeg (((6 : Int32) * v18) + l3)))) * (r20 + (1 : Int64))), .long (((Int32.toInt64 (st21 7 (Int32.toNatClampNeg (((6 : Int32) * r13) + l3)))) * (r22 + (1 : Int64))) * r25)]) C (c_Mo_all h) (cwV 1 C.2.2.2.2.1 (tg_V tm4_78 tm4_80 tp_29 tm1_7 tm4_81) rfl rfl rfl ⟨rfl, by decide, by decide, by decide⟩ ⟨Nat.le_of_ble_eq_true rfl, Nat.le_of_ble_eq_true rfl⟩) dMo_share_198 (rfl : kC[5]? = _) mA_0 rfl rfl (Nat.le_of_ble_eq_true rfl) ⟨Nat.le_of_ble_eq_true rfl, Nat.le_of_ble_eq_true rfl⟩ (fun r28 st27 h => ?_)
            refine jr_lmul C dMo_share_201 ?_
            refine jr_ladd C dMo_share_202 ?_
            refine jr_lstore (lv' := [(11, .long ((((Int32.toInt64 (st21 7 (Int32.toNatClampNeg (((6 : Int32) * r13) + l3)))) * (r22 + (1 : Int64))) * r25) + (((Int32.toInt64 (st24 7 (Int32.toNatClampNeg (((6 : Int32) * v18) + l3)))) * (r20 + (1 : Int64))) * r28))), (9, .long (r22 + (1 : Int64))), (7, .long (r20 + (1 : Int64))), (6, .int v18), (0, .ref (ad 0)), (1, .int l1), (2, .int l2), (3, .int l3), (4, .int l4), (5, .int r13)]) C dMo_share_203 (by decide) rfl ?_
            refine jr_lload (q := 0) C dMo_share_205 rfl ?_
            refine jr_aload_n (q := 4) C dMo_share_207 rfl rfl ?_
            refine jr_iload (q := 9) C dMo_share_208 rfl ?_
            refine jr_callVl (As := [.int r13]) (rest := [.long ((((Int32.toInt64 (st21 7 (Int32.toNatClampNeg (((6 : Int32) * r13) + l3)))) * (r22 + (1 : Int64))) * r25) + (((Int32.toInt64 (st24 7 (Int32.toNatClampNeg (((6 : Int32) * v18) + l3)))) * (r20 + (1 : Int64))) * r28))]) C (c_Mo_all h) (cwV 1 C.2.2.2.2.1 (tg_V tm4_78 tm4_80 tp_29 tm1_7 tm4_81) rfl rfl rfl ⟨rfl, by decide, by decide, by decide⟩ ⟨Nat.le_of_ble_eq_true rfl, Nat.le_of_ble_eq_true rfl⟩) dMo_share_210 (rfl : kC[5]? = _) mA_0 rfl rfl (Nat.le_of_ble_eq_true rfl) ⟨Nat.le_of_ble_eq_true rfl, Nat.le_of_ble_eq_true rfl⟩ (fun r30 st29 h => ?_)
            refine jr_aload_n (q := 4) C dMo_share_213 rfl rfl ?_
            refine jr_iload (q := 3) C dMo_share_214 rfl ?_
            refine jr_callVl (As := [.int v18]) (rest := [.long r30, .long ((((Int32.toInt64 (st21 7 (Int32.toNatClampNeg (((6 : Int32) * r13) + l3)))) * (r22 + (1 : Int64))) * r25) + (((Int32.toInt64 (st24 7 (Int32.toNatClampNeg (((6 : Int32) * v18) + l3)))) * (r20 + (1 : Int64))) * r28))]) C (c_Mo_all h) (cwV 1 C.2.2.2.2.1 (tg_V tm4_78 tm4_80 tp_29 tm1_7 tm4_81) rfl rfl rfl ⟨rfl, by decide, by decide, by decide⟩ ⟨Nat.le_of_ble_eq_true rfl, Nat.le_of_ble_eq_true rfl⟩) dMo_share_216 (rfl : kC[5]? = _) mA_0 rfl rfl (Nat.le_of_ble_eq_true rfl) ⟨Nat.le_of_ble_eq_true rfl, Nat.le_of_ble_eq_true rfl⟩ (fun r32 st31 h => ?_)
            refine jr_lmul C dMo_share_219 ?_
            refine jr_lload (q := 2) C dMo_share_220 rfl ?_
            refine jr_lload (q := 1) C dMo_share_222 rfl ?_
            refine jr_ladd C dMo_share_224 ?_
            refine jr_lmul C dMo_share_225 ?_
            refine jr_iload (q := 8) C dMo_share_226 rfl ?_
            refine jr_callSl (As := [.long ((((Int32.toInt64 (st21 7 (Int32.toNatClampNeg (((6 : Int32) * r13) + l3)))) * (r22 + (1 : Int64))) * r25) + (((Int32.toInt64 (st24 7 (Int32.toNatClampNeg (((6 : Int32) * v18) + l3)))) * (r20 + (1 : Int64))) * r28)), .long ((r30 * r32) * ((r20 + (1 : Int64)) + (r22 + (1 : Int64)))), .int l4]) (rest := []) C (c_Mo_part h) (va_cwS 3 C.2.2.2.2.1 (tg_S tm4_12 tm4_13 tm1_7 tm4_14) rfl rfl rfl ⟨by decide, by decide, by decide⟩ ⟨Nat.le_of_ble_eq_true rfl, Nat.le_of_ble_eq_true rfl⟩) dMo_share_228 rfl rfl (Nat.le_of_ble_eq_true rfl) ⟨Nat.le_of_ble_eq_true rfl, Nat.le_of_ble_eq_true rfl⟩ (fun r34 st33 h => ?_)
            exact jr_retl C hr hlocks dMo_share_231 h rfl
          · have h := h.2 z
            refine jr_aload_n (q := 1) C dMo_share_107 rfl rfl ?_
            refine jr_getf (k := 12) C dMo_share_108 inw_Mo (rfl : kC[5]? = _) (by decide) (List.mem_cons_of_mem _ tm3_141) rfl mA_0 rfl ?_
            refine jr_bipush (v := 6) C dMo_share_111 (by decide) ?_
            refine jr_iload (q := 6) C dMo_share_113 rfl ?_
            refine jr_imul C dMo_share_115 ?_
            refine jr_iload_n (q := 4) C dMo_share_116 rfl rfl ?_
            refine jr_iadd C dMo_share_117 ?_
            obtain ⟨h35, h⟩ := h
            refine jr_iald (t0 := 0) C dMo_share_118 mA_7 rfl h35 ?_
            refine jr_i2l C dMo_share_119 ?_
            refine jr_aload_n (q := 1) C dMo_share_120 rfl rfl ?_
            refine jr_iload (q := 6) C dMo_share_121 rfl ?_
            refine jr_callVl (As := [.int r13]) (rest := [.long (Int32.toInt64 (st17 7 (Int32.toNatClampNeg (((6 : Int32) * r13) + l3))))]) C (c_Mo_all h) (cwV 1 C.2.2.2.2.1 (tg_V tm4_78 tm4_80 tp_29 tm1_7 tm4_81) rfl rfl rfl ⟨rfl, by decide, by decide, by decide⟩ ⟨Nat.le_of_ble_eq_true rfl, Nat.le_of_ble_eq_true rfl⟩) dMo_share_123 (rfl : kC[5]? = _) mA_0 rfl rfl (Nat.le_of_ble_eq_true rfl) ⟨Nat.le_of_ble_eq_true rfl, Nat.le_of_ble_eq_true rfl⟩ (fun r37 st36 h => ?_)
            refine jr_iload (q := 5) C dMo_share_126 rfl ?_
            refine jr_callSl (As := [.long (Int32.toInt64 (st17 7 (Int32.toNatClampNeg (((6 : Int32) * r13) + l3)))), .long r37, .int l4]) (rest := []) C (c_Mo_part h) (va_cwS 3 C.2.2.2.2.1 (tg_S tm4_12 tm4_13 tm1_7 tm4_14) rfl rfl rfl ⟨by decide, by decide, by decide⟩ ⟨Nat.le_of_ble_eq_true rfl, Nat.le_of_ble_eq_true rfl⟩) dMo_share_128 rfl rfl (Nat.le_of_ble_eq_true rfl) ⟨Nat.le_of_ble_eq_true rfl, Nat.le_of_ble_eq_true rfl⟩ (fun r39 st38 h => ?_)
            exact jr_retl C hr hlocks dMo_share_131 h rfl
        · have h := h.2 z
          refine jr_iload (q := 5) C dMo_share_97 rfl ?_
          refine jr_i2l C dMo_share_99 ?_
          exact jr_retl C hr hlocks dMo_share_100 h rfl
      refine jr_icmp_ne (tgt := 81) C dMo_share_74 (by decide) (fun z => ?_) (fun z => ?_)
      · have h := h.1 z
        refine jr_aload_n (q := 1) C dMo_share_81 rfl rfl ?_
        refine jr_iload_n (q := 2) C dMo_share_82 rfl rfl ?_
        refine jr_iload_n (q := 3) C dMo_share_83 rfl rfl ?_
        refine jr_iload (q := 0) C dMo_share_84 rfl ?_
        refine jr_callVi (As := [.int l1, .int l2, .int r13]) (rest := []) C (c_Mo_nearHaul h) (cwV 3 C.2.2.2.2.1 (tg_V tm4_74 tm4_76 tp_28 tm1_7 tm4_77) rfl rfl rfl ⟨rfl, by decide, by decide, by decide⟩ ⟨Nat.le_of_ble_eq_true rfl, Nat.le_of_ble_eq_true rfl⟩) dMo_share_86 (rfl : kC[5]? = _) mA_0 rfl rfl (Nat.le_of_ble_eq_true rfl) ⟨Nat.le_of_ble_eq_true rfl, Nat.le_of_ble_eq_true rfl⟩ (fun r16 st15 h => ?_)
        refine jr_lv (lv' := [(0, .ref (ad 0)), (1, .int l1), (2, .int l2), (3, .int l3), (4, .int l4), (5, .int r13)]) [1, 2, 3, 4, 5, 0] rfl ?_
        exact hj14 st15 r16 h
      · have h := h.2 z
        refine jr_iconst (v := -1) C dMo_share_77 (by decide) ?_
        refine jr_goto (tgt := 89) C dMo_share_78 (by decide) ?_
        refine jr_lv (lv' := [(0, .ref (ad 0)), (1, .int l1), (2, .int l2), (3, .int l3), (4, .int l4), (5, .int r13)]) [1, 2, 3, 4, 5, 0] rfl ?_
        exact hj14 st12 (-1 : Int32) h
    · have h := h.2 z
      refine jr_lconst (v := 0) C dMo_share_60 (by decide) ?_
      exact jr_retl C hr hlocks dMo_share_61 h rfl
  refine jr_if_eq (tgt := 19) C dMo_share_6 (by decide) (fun z => ?_) (fun z => ?_)
  · have h := h.1 z
    refine jr_iconst (v := 1) C dMo_share_19 (by decide) ?_
    refine jr_goto (tgt := 50) C dMo_share_20 (by decide) ?_
    refine jr_lv (lv' := [(0, .ref (ad 0)), (1, .int l1), (2, .int l2), (3, .int l3), (4, .int l4)]) [0, 1, 2, 3, 4] rfl ?_
    exact hj3 st1 (1 : Int32) h
  · have h := h.2 z
    refine jr_iload (q := 4) C dMo_share_9 rfl ?_
    refine jr_iconst (v := 0) C dMo_share_11 (by decide) ?_
    refine jr_iconst (v := 1) C dMo_share_12 (by decide) ?_
    refine jr_callSi (As := [.int l4, .int (0 : Int32), .int (1 : Int32)]) (rest := [.ref (ad 0)]) C (c_Mo_isIn h) (va_cwS 3 C.2.2.2.2.1 (tg_S tm3_193 tm3_194 tm1_7 tm3_195) rfl rfl rfl ⟨by decide, by decide, by decide⟩ ⟨Nat.le_of_ble_eq_true rfl, Nat.le_of_ble_eq_true rfl⟩) dMo_share_13 rfl rfl (Nat.le_of_ble_eq_true rfl) ⟨Nat.le_of_ble_eq_true rfl, Nat.le_of_ble_eq_true rfl⟩ (fun r5 st4 h => ?_)
    refine jr_if_ne (tgt := 23) C dMo_share_16 (by decide) (fun z => ?_) (fun z => ?_)
    · have h := h.1 z
      refine jr_iload_n (q := 1) C dMo_share_23 rfl rfl ?_
      refine jr_bipush (v := -100) C dMo_share_24 (by decide) ?_
      refine jr_bipush (v := 100) C dMo_share_26 (by decide) ?_
      refine jr_callSi (As := [.int l1, .int (-100 : Int32), .int (100 : Int32)]) (rest := [.ref (ad 0)]) C (c_Mo_isIn h) (va_cwS 3 C.2.2.2.2.1 (tg_S tm3_193 tm3_194 tm1_7 tm3_195) rfl rfl rfl ⟨by decide, by decide, by decide⟩ ⟨Nat.le_of_ble_eq_true rfl, Nat.le_of_ble_eq_true rfl⟩) dMo_share_28 rfl rfl (Nat.le_of_ble_eq_true rfl) ⟨Nat.le_of_ble_eq_true rfl, Nat.le_of_ble_eq_true rfl⟩ (fun r7 st6 h => ?_)
      refine jr_if_eq (tgt := 45) C dMo_share_31 (by decide) (fun z => ?_) (fun z => ?_)
      · have h := h.1 z
        refine jr_iconst (v := 2) C dMo_share_45 (by decide) ?_
        refine jr_goto (tgt := 50) C dMo_share_46 (by decide) ?_
        refine jr_lv (lv' := [(0, .ref (ad 0)), (1, .int l1), (2, .int l2), (3, .int l3), (4, .int l4)]) [0, 1, 2, 3, 4] rfl ?_
        exact hj3 st6 (2 : Int32) h
      · have h := h.2 z
        refine jr_iload_n (q := 2) C dMo_share_34 rfl rfl ?_
        refine jr_bipush (v := -100) C dMo_share_35 (by decide) ?_
        refine jr_bipush (v := 100) C dMo_share_37 (by decide) ?_
        refine jr_callSi (As := [.int l2, .int (-100 : Int32), .int (100 : Int32)]) (rest := [.ref (ad 0)]) C (c_Mo_isIn h) (va_cwS 3 C.2.2.2.2.1 (tg_S tm3_193 tm3_194 tm1_7 tm3_195) rfl rfl rfl ⟨by decide, by decide, by decide⟩ ⟨Nat.le_of_ble_eq_true rfl, Nat.le_of_ble_eq_true rfl⟩) dMo_share_39 rfl rfl (Nat.le_of_ble_eq_true rfl) ⟨Nat.le_of_ble_eq_true rfl, Nat.le_of_ble_eq_true rfl⟩ (fun r9 st8 h => ?_)
        refine jr_if_ne (tgt := 49) C dMo_share_42 (by decide) (fun z => ?_) (fun z => ?_)
        · have h := h.1 z
          refine jr_iconst (v := 0) C dMo_share_49 (by decide) ?_
          refine jr_lv (lv' := [(0, .ref (ad 0)), (1, .int l1), (2, .int l2), (3, .int l3), (4, .int l4)]) [0, 1, 2, 3, 4] rfl ?_
          exact hj3 st8 (0 : Int32) h
        · have h := h.2 z
          refine jr_iconst (v := 2) C dMo_share_45 (by decide) ?_
          refine jr_goto (tgt := 50) C dMo_share_46 (by decide) ?_
          refine jr_lv (lv' := [(0, .ref (ad 0)), (1, .int l1), (2, .int l2), (3, .int l3), (4, .int l4)]) [0, 1, 2, 3, 4] rfl ?_
          exact hj3 st8 (2 : Int32) h
    · have h := h.2 z
      refine jr_iconst (v := 1) C dMo_share_19 (by decide) ?_
      refine jr_goto (tgt := 50) C dMo_share_20 (by decide) ?_
      refine jr_lv (lv' := [(0, .ref (ad 0)), (1, .int l1), (2, .int l2), (3, .int l3), (4, .int l4)]) [0, 1, 2, 3, 4] rfl ?_
      exact hj3 st4 (1 : Int32) h
def wp_Mo_law (st : jS) (l1 : Int32) (l2 : Int32) (l3 : Int32) (post : Int32 → jS → Prop) : Prop :=
  wp_Mo_isKind st l1 (fun r2 st1 => (∃ j3 : Int32 → Prop, (∀ (v5 : Int32), j3 v5 → wp_Mo_isIn st1 l2 (1 : Int32) (1000 : Int32) (fun r7 st6 => (∃ j8 : jS → Int32 → Prop, (∀ (st14 : jS) (v15 : Int32), j8 st14 v15 → wp_Mo_isKind st14 l1 (fun r17 st16 => (∃ j18 : Int32 → Prop, (∀ (v19 : Int32), j18 v19 → ((((jq st16 0 0 v19) 0 0) ≤ 0 → vp_in (((6 : Int32) * l1) + v5) 36 ∧ vp_in (((6 : Int32) * l1) + v5) 36 ∧ vp_in l1 6 ∧ vp_in l1 6 ∧ vp_in l1 6 ∧ post ((jq (jq (jq (jq st16 0 0 v19) 9 (Int32.toNatClampNeg (((6 : Int32) * l1) + v5)) l2) 10 (Int32.toNatClampNeg (((6 : Int32) * l1) + v5)) l3) 8 (Int32.toNatClampNeg l1) (((jq (jq (jq st16 0 0 v19) 9 (Int32.toNatClampNeg (((6 : Int32) * l1) + v5)) l2) 10 (Int32.toNatClampNeg (((6 : Int32) * l1) + v5)) l3) 8 (Int32.toNatClampNeg l1)) + (1 : Int32))) 8 (Int32.toNatClampNeg l1)) (jq (jq (jq (jq st16 0 0 v19) 9 (Int32.toNatClampNeg (((6 : Int32) * l1) + v5)) l2) 10 (Int32.toNatClampNeg (((6 : Int32) * l1) + v5)) l3) 8 (Int32.toNatClampNeg l1) (((jq (jq (jq st16 0 0 v19) 9 (Int32.toNatClampNeg (((6 : Int32) * l1) + v5)) l2) 10 (Int32.toNatClampNeg (((6 : Int32) * l1) + v5)) l3) 8 (Int32.toNatClampNeg l1)) + (1 : Int32)))) ∧ (¬ ((jq st16 0 0 v19) 0 0) ≤ 0 → post (0 : Int32) (jq st16 0 0 v19)))) ∧ ((¬ r17 = 0 → ((¬ v15 = 0 → ((¬ v5 = (6 : Int32) → j18 (0 : Int32)) ∧ (v5 = (6 : Int32) → j18 (3 : Int32)))) ∧ (v15 = 0 → j18 (2 : Int32)))) ∧ (r17 = 0 → j18 (1 : Int32)))))) ∧ ((r7 = 0 → j8 st6 (0 : Int32)) ∧ (¬ r7 = 0 → wp_Mo_isIn st6 l3 (0 : Int32) (2000 : Int32) (fun r10 st9 => ((r10 = 0 → j8 st9 (0 : Int32)) ∧ (¬ r10 = 0 → wp_Mo_isKind st9 l1 (fun r12 st11 => ((r12 = 0 → j8 st11 (0 : Int32)) ∧ (¬ r12 = 0 → ((v5 = 0 → j8 st11 (1 : Int32)) ∧ (¬ v5 = 0 → vp_in ((((6 : Int32) * l1) + v5) - (1 : Int32)) 36 ∧ ((l2 ≤ (st11 9 (Int32.toNatClampNeg ((((6 : Int32) * l1) + v5) - (1 : Int32)))) → j8 st11 (0 : Int32)) ∧ (¬ l2 ≤ (st11 9 (Int32.toNatClampNeg ((((6 : Int32) * l1) + v5) - (1 : Int32)))) → j8 st11 (1 : Int32)))))))))))))))) ∧ ((r2 = 0 → j3 (0 : Int32)) ∧ (¬ r2 = 0 → vp_in l1 6 ∧ j3 (st1 8 (Int32.toNatClampNeg l1))))))
set_option maxRecDepth 100000 in
set_option maxHeartbeats 4000000 in
theorem c_Mo_law {st : jS} {l1 : Int32} {l2 : Int32} {l3 : Int32} {post : Int32 → jS → Prop} (h : wp_Mo_law st l1 l2 l3 post) : jr_Mi l yMo_law wMo_law ({ frames := 2, cells := 0, slots := 0, locals := 43 }) [.ref (ad 0), .int l1, .int l2, .int l3] D kC (kT cI cII cL cJ) (mW cI ad fr st) (mW cI ad fr) post := by
  refine jr_ofi (cc := bMo_law) (nL := 6) (lv := [(0, .ref (ad 0)), (1, .int l1), (2, .int l2), (3, .int l3)]) (by decide) rfl (Nat.le_of_ble_eq_true rfl) rfl (fun p e s m args below meth c A C hr hlocks => ?_)
  unfold wp_Mo_law at h
  refine jr_aload_n (q := 0) C dMo_law_0 rfl rfl ?_
  refine jr_iload_n (q := 1) C dMo_law_1 rfl rfl ?_
  refine jr_callVi (As := [.int l1]) (rest := []) C (c_Mo_isKind h) (cwV 1 C.2.2.2.2.1 (tg_V tm3_189 tm3_191 tp_18 tm1_7 tm3_192) rfl rfl rfl ⟨rfl, by decide, by decide, by decide⟩ ⟨Nat.le_of_ble_eq_true rfl, Nat.le_of_ble_eq_true rfl⟩) dMo_law_2 (rfl : kC[5]? = _) mA_0 rfl rfl (Nat.le_of_ble_eq_true rfl) ⟨Nat.le_of_ble_eq_true rfl, Nat.le_of_ble_eq_true rfl⟩ (fun r2 st1 h => ?_)
  obtain ⟨j3, j3r, h⟩ := h
  have hj3 : ∀ (v5 : Int32), j3 v5 → jr_J p l e (headSpec wMo_law ({ frames := 2, cells := 0, slots := 0, locals := 43 })).room s m args below meth c A D kC 6 0 0 (MQ below (va_Qi post (jr_B D kC (kT cI cII cL cJ) (mW cI ad fr) A) A) args s 0 0 A) (mW cI ad fr st1) 18 [(0, .ref (ad 0)), (1, .int l1), (2, .int l2), (3, .int l3)] [.int v5] := by
    intro v5 h
    have h := j3r v5 h
    refine jr_istore (lv' := [(4, .int v5), (0, .ref (ad 0)), (1, .int l1), (2, .int l2), (3, .int l3)]) C dMo_law_18 (by decide) rfl ?_
    refine jr_iload_n (q := 3) C dMo_law_20 rfl rfl ?_
    refine jr_iconst (v := 1) C dMo_law_21 (by decide) ?_
    refine jr_sipush (v := 1000) C dMo_law_22 (by decide) ?_
    refine jr_callSi (As := [.int l2, .int (1 : Int32), .int (1000 : Int32)]) (rest := []) C (c_Mo_isIn h) (va_cwS 3 C.2.2.2.2.1 (tg_S tm3_193 tm3_194 tm1_7 tm3_195) rfl rfl rfl ⟨by decide, by decide, by decide⟩ ⟨Nat.le_of_ble_eq_true rfl, Nat.le_of_ble_eq_true rfl⟩) dMo_law_25 rfl rfl (Nat.le_of_ble_eq_true rfl) ⟨Nat.le_of_ble_eq_true rfl, Nat.le_of_ble_eq_true rfl⟩ (fun r7 st6 h => ?_)
    obtain ⟨j8, j8r, h⟩ := h
    have hj8 : ∀ (st14 : jS) (v15 : Int32), j8 st14 v15 → jr_J p l e (headSpec wMo_law ({ frames := 2, cells := 0, slots := 0, locals := 43 })).room s m args below meth c A D kC 6 0 0 (MQ below (va_Qi post (jr_B D kC (kT cI cII cL cJ) (mW cI ad fr) A) A) args s 0 0 A) (mW cI ad fr st14) 78 [(0, .ref (ad 0)), (1, .int l1), (2, .int l2), (3, .int l3), (4, .int v5)] [.int v15] := by
      intro st14 v15 h
      have h := j8r st14 v15 h
      refine jr_istore (lv' := [(5, .int v15), (0, .ref (ad 0)), (1, .int l1), (2, .int l2), (3, .int l3), (4, .int v5)]) C dMo_law_78 (by decide) rfl ?_
      refine jr_aload_n (q := 1) C dMo_law_80 rfl rfl ?_
      refine jr_aload_n (q := 1) C dMo_law_81 rfl rfl ?_
      refine jr_iload_n (q := 2) C dMo_law_82 rfl rfl ?_
      refine jr_callVi (As := [.int l1]) (rest := [.ref (ad 0)]) C (c_Mo_isKind h) (cwV 1 C.2.2.2.2.1 (tg_V tm3_189 tm3_191 tp_18 tm1_7 tm3_192) rfl rfl rfl ⟨rfl, by decide, by decide, by decide⟩ ⟨Nat.le_of_ble_eq_true rfl, Nat.le_of_ble_eq_true rfl⟩) dMo_law_83 (rfl : kC[5]? = _) mA_0 rfl rfl (Nat.le_of_ble_eq_true rfl) ⟨Nat.le_of_ble_eq_true rfl, Nat.le_of_ble_eq_true rfl⟩ (fun r17 st16 h => ?_)
      obtain ⟨j18, j18r, h⟩ := h
      have hj18 : ∀ (v19 : Int32), j18 v19 → jr_J p l e (headSpec wMo_law ({ frames := 2, cells := 0, slots := 0, locals := 43 })).room s m args below meth c A D kC 6 0 0 (MQ below (va_Qi post (jr_B D kC (kT cI cII cL cJ) (mW cI ad fr) A) A) args s 0 0 A) (mW cI ad fr st16) 114 [(0, .ref (ad 0)), (1, .int l1), (2, .int l2), (3, .int l3), (4, .int v5), (5, .int v15)] [.int v19, .ref (ad 0)] := by
        intro v19 h
        have h := j18r v19 h
        refine jr_putf (k := 0) C dMo_law_114 inw_Mo ty_Mo ty_Mo_ok nm_Mo (rfl : kC[5]? = _) (by decide) (List.mem_cons_of_mem _ tm3_129) rfl rfl (ty := .int) rfl rfl rfl mA_0 (Nat.le_of_ble_eq_true rfl) ?_
        refine jr_ws (ws' := mW cI ad fr (jq st16 0 0 v19)) (mP_0_0) ?_
        refine jr_aload_n (q := 0) C dMo_law_117 rfl rfl ?_
        refine jr_getf (k := 0) C dMo_law_118 inw_Mo (rfl : kC[5]? = _) (by decide) (List.mem_cons_of_mem _ tm3_129) rfl mA_0 rfl ?_
        refine jr_if_le (tgt := 126) C dMo_law_121 (by decide) (fun z => ?_) (fun z => ?_)
        · have h := h.1 z
          refine jr_aload_n (q := 0) C dMo_law_126 rfl rfl ?_
          refine jr_getf (k := 14) C dMo_law_127 inw_Mo (rfl : kC[5]? = _) (by decide) (List.mem_cons_of_mem _ tm3_143) rfl mA_0 rfl ?_
          refine jr_bipush (v := 6) C dMo_law_130 (by decide) ?_
          refine jr_iload_n (q := 1) C dMo_law_132 rfl rfl ?_
          refine jr_imul C dMo_law_133 ?_
          refine jr_iload (q := 4) C dMo_law_134 rfl ?_
          refine jr_iadd C dMo_law_136 ?_
          refine jr_iload_n (q := 2) C dMo_law_137 rfl rfl ?_
          obtain ⟨h20, h⟩ := h
          refine jr_iast (t0 := 0) C dMo_law_138 mA_9 rfl h20 ?_
          refine jr_ws (ws' := mW cI ad fr (jq (jq st16 0 0 v19) 9 (Int32.toNatClampNeg (((6 : Int32) * l1) + v5)) l2)) (mP_9) ?_
          refine jr_aload_n (q := 0) C dMo_law_139 rfl rfl ?_
          refine jr_getf (k := 15) C dMo_law_140 inw_Mo (rfl : kC[5]? = _) (by decide) (List.mem_cons_of_mem _ tm3_144) rfl mA_0 rfl ?_
          refine jr_bipush (v := 6) C dMo_law_143 (by decide) ?_
          refine jr_iload_n (q := 1) C dMo_law_145 rfl rfl ?_
          refine jr_imul C dMo_law_146 ?_
          refine jr_iload (q := 4) C dMo_law_147 rfl ?_
          refine jr_iadd C dMo_law_149 ?_
          refine jr_iload_n (q := 3) C dMo_law_150 rfl rfl ?_
          obtain ⟨h21, h⟩ := h
          refine jr_iast (t0 := 0) C dMo_law_151 mA_10 rfl h21 ?_
          refine jr_ws (ws' := mW cI ad fr (jq (jq (jq st16 0 0 v19) 9 (Int32.toNatClampNeg (((6 : Int32) * l1) + v5)) l2) 10 (Int32.toNatClampNeg (((6 : Int32) * l1) + v5)) l3)) (mP_10) ?_
          refine jr_aload_n (q := 0) C dMo_law_152 rfl rfl ?_
          refine jr_getf (k := 13) C dMo_law_153 inw_Mo (rfl : kC[5]? = _) (by decide) (List.mem_cons_of_mem _ tm3_142) rfl mA_0 rfl ?_
          refine jr_iload_n (q := 1) C dMo_law_156 rfl rfl ?_
          refine jr_dup2_11 C dMo_law_157 rfl rfl ?_
          obtain ⟨h22, h⟩ := h
          refine jr_iald (t0 := 0) C dMo_law_158 mA_8 rfl h22 ?_
          refine jr_iconst (v := 1) C dMo_law_159 (by decide) ?_
          refine jr_iadd C dMo_law_160 ?_
          obtain ⟨h23, h⟩ := h
          refine jr_iast (t0 := 0) C dMo_law_161 mA_8 rfl h23 ?_
          refine jr_ws (ws' := mW cI ad fr (jq (jq (jq (jq st16 0 0 v19) 9 (Int32.toNatClampNeg (((6 : Int32) * l1) + v5)) l2) 10 (Int32.toNatClampNeg (((6 : Int32) * l1) + v5)) l3) 8 (Int32.toNatClampNeg l1) (((jq (jq (jq st16 0 0 v19) 9 (Int32.toNatClampNeg (((6 : Int32) * l1) + v5)) l2) 10 (Int32.toNatClampNeg (((6 : Int32) * l1) + v5)) l3) 8 (Int32.toNatClampNeg l1)) + (1 : Int32)))) (mP_8) ?_
          refine jr_aload_n (q := 0) C dMo_law_162 rfl rfl ?_
          refine jr_getf (k := 13) C dMo_law_163 inw_Mo (rfl : kC[5]? = _) (by decide) (List.mem_cons_of_mem _ tm3_142) rfl mA_0 rfl ?_
          refine jr_iload_n (q := 1) C dMo_law_166 rfl rfl ?_
          obtain ⟨h24, h⟩ := h
          refine jr_iald (t0 := 0) C dMo_law_167 mA_8 rfl h24 ?_
          exact jr_reti C hr hlocks dMo_law_168 h rfl
        · have h := h.2 z
          refine jr_iconst (v := 0) C dMo_law_124 (by decide) ?_
          exact jr_reti C hr hlocks dMo_law_125 h rfl
      refine jr_if_ne (tgt := 93) C dMo_law_86 (by decide) (fun z => ?_) (fun z => ?_)
      · have h := h.1 z
        refine jr_iload (q := 0) C dMo_law_93 rfl ?_
        refine jr_if_ne (tgt := 102) C dMo_law_95 (by decide) (fun z => ?_) (fun z => ?_)
        · have h := h.1 z
          refine jr_iload (q := 5) C dMo_law_102 rfl ?_
          refine jr_bipush (v := 6) C dMo_law_104 (by decide) ?_
          refine jr_icmp_ne (tgt := 113) C dMo_law_106 (by decide) (fun z => ?_) (fun z => ?_)
          · have h := h.1 z
            refine jr_iconst (v := 0) C dMo_law_113 (by decide) ?_
            refine jr_lv (lv' := [(0, .ref (ad 0)), (1, .int l1), (2, .int l2), (3, .int l3), (4, .int v5), (5, .int v15)]) [1, 2, 3, 4, 5, 0] rfl ?_
            exact hj18 (0 : Int32) h
          · have h := h.2 z
            refine jr_iconst (v := 3) C dMo_law_109 (by decide) ?_
            refine jr_goto (tgt := 114) C dMo_law_110 (by decide) ?_
            refine jr_lv (lv' := [(0, .ref (ad 0)), (1, .int l1), (2, .int l2), (3, .int l3), (4, .int v5), (5, .int v15)]) [1, 2, 3, 4, 5, 0] rfl ?_
            exact hj18 (3 : Int32) h
        · have h := h.2 z
          refine jr_iconst (v := 2) C dMo_law_98 (by decide) ?_
          refine jr_goto (tgt := 114) C dMo_law_99 (by decide) ?_
          refine jr_lv (lv' := [(0, .ref (ad 0)), (1, .int l1), (2, .int l2), (3, .int l3), (4, .int v5), (5, .int v15)]) [1, 2, 3, 4, 5, 0] rfl ?_
          exact hj18 (2 : Int32) h
      · have h := h.2 z
        refine jr_iconst (v := 1) C dMo_law_89 (by decide) ?_
        refine jr_goto (tgt := 114) C dMo_law_90 (by decide) ?_
        refine jr_lv (lv' := [(0, .ref (ad 0)), (1, .int l1), (2, .int l2), (3, .int l3), (4, .int v5), (5, .int v15)]) [1, 2, 3, 4, 5, 0] rfl ?_
        exact hj18 (1 : Int32) h
    refine jr_if_eq (tgt := 77) C dMo_law_28 (by decide) (fun z => ?_) (fun z => ?_)
    · have h := h.1 z
      refine jr_iconst (v := 0) C dMo_law_77 (by decide) ?_
      refine jr_lv (lv' := [(0, .ref (ad 0)), (1, .int l1), (2, .int l2), (3, .int l3), (4, .int v5)]) [1, 2, 3, 4, 0] rfl ?_
      exact hj8 st6 (0 : Int32) h
    · have h := h.2 z
      refine jr_iload_n (q := 4) C dMo_law_31 rfl rfl ?_
      refine jr_iconst (v := 0) C dMo_law_32 (by decide) ?_
      refine jr_sipush (v := 2000) C dMo_law_33 (by decide) ?_
      refine jr_callSi (As := [.int l3, .int (0 : Int32), .int (2000 : Int32)]) (rest := []) C (c_Mo_isIn h) (va_cwS 3 C.2.2.2.2.1 (tg_S tm3_193 tm3_194 tm1_7 tm3_195) rfl rfl rfl ⟨by decide, by decide, by decide⟩ ⟨Nat.le_of_ble_eq_true rfl, Nat.le_of_ble_eq_true rfl⟩) dMo_law_36 rfl rfl (Nat.le_of_ble_eq_true rfl) ⟨Nat.le_of_ble_eq_true rfl, Nat.le_of_ble_eq_true rfl⟩ (fun r10 st9 h => ?_)
      refine jr_if_eq (tgt := 77) C dMo_law_39 (by decide) (fun z => ?_) (fun z => ?_)
      · have h := h.1 z
        refine jr_iconst (v := 0) C dMo_law_77 (by decide) ?_
        refine jr_lv (lv' := [(0, .ref (ad 0)), (1, .int l1), (2, .int l2), (3, .int l3), (4, .int v5)]) [1, 2, 3, 4, 0] rfl ?_
        exact hj8 st9 (0 : Int32) h
      · have h := h.2 z
        refine jr_aload_n (q := 1) C dMo_law_42 rfl rfl ?_
        refine jr_iload_n (q := 2) C dMo_law_43 rfl rfl ?_
        refine jr_callVi (As := [.int l1]) (rest := []) C (c_Mo_isKind h) (cwV 1 C.2.2.2.2.1 (tg_V tm3_189 tm3_191 tp_18 tm1_7 tm3_192) rfl rfl rfl ⟨rfl, by decide, by decide, by decide⟩ ⟨Nat.le_of_ble_eq_true rfl, Nat.le_of_ble_eq_true rfl⟩) dMo_law_44 (rfl : kC[5]? = _) mA_0 rfl rfl (Nat.le_of_ble_eq_true rfl) ⟨Nat.le_of_ble_eq_true rfl, Nat.le_of_ble_eq_true rfl⟩ (fun r12 st11 h => ?_)
        refine jr_if_eq (tgt := 77) C dMo_law_47 (by decide) (fun z => ?_) (fun z => ?_)
        · have h := h.1 z
          refine jr_iconst (v := 0) C dMo_law_77 (by decide) ?_
          refine jr_lv (lv' := [(0, .ref (ad 0)), (1, .int l1), (2, .int l2), (3, .int l3), (4, .int v5)]) [1, 2, 3, 4, 0] rfl ?_
          exact hj8 st11 (0 : Int32) h
        · have h := h.2 z
          refine jr_iload (q := 0) C dMo_law_50 rfl ?_
          refine jr_if_eq (tgt := 73) C dMo_law_52 (by decide) (fun z => ?_) (fun z => ?_)
          · have h := h.1 z
            refine jr_iconst (v := 1) C dMo_law_73 (by decide) ?_
            refine jr_goto (tgt := 78) C dMo_law_74 (by decide) ?_
            refine jr_lv (lv' := [(0, .ref (ad 0)), (1, .int l1), (2, .int l2), (3, .int l3), (4, .int v5)]) [1, 2, 3, 4, 0] rfl ?_
            exact hj8 st11 (1 : Int32) h
          · have h := h.2 z
            refine jr_iload_n (q := 3) C dMo_law_55 rfl rfl ?_
            refine jr_aload_n (q := 1) C dMo_law_56 rfl rfl ?_
            refine jr_getf (k := 14) C dMo_law_57 inw_Mo (rfl : kC[5]? = _) (by decide) (List.mem_cons_of_mem _ tm3_143) rfl mA_0 rfl ?_
            refine jr_bipush (v := 6) C dMo_law_60 (by decide) ?_
            refine jr_iload_n (q := 2) C dMo_law_62 rfl rfl ?_
            refine jr_imul C dMo_law_63 ?_
            refine jr_iload (q := 0) C dMo_law_64 rfl ?_
            refine jr_iadd C dMo_law_66 ?_
            refine jr_iconst (v := 1) C dMo_law_67 (by decide) ?_
            refine jr_isub C dMo_law_68 ?_
            obtain ⟨h13, h⟩ := h
            refine jr_iald (t0 := 0) C dMo_law_69 mA_9 rfl h13 ?_
            refine jr_icmp_le (tgt := 77) C dMo_law_70 (by decide) (fun z => ?_) (fun z => ?_)
            · have h := h.1 z
              refine jr_iconst (v := 0) C dMo_law_77 (by decide) ?_
              refine jr_lv (lv' := [(0, .ref (ad 0)), (1, .int l1), (2, .int l2), (3, .int l3), (4, .int v5)]) [1, 2, 3, 4, 0] rfl ?_
              exact hj8 st11 (0 : Int32) h
            · have h := h.2 z
              refine jr_iconst (v := 1) C dMo_law_73 (by decide) ?_
              refine jr_goto (tgt := 78) C dMo_law_74 (by decide) ?_
              refine jr_lv (lv' := [(0, .ref (ad 0)), (1, .int l1), (2, .int l2), (3, .int l3), (4, .int v5)]) [1, 2, 3, 4, 0] rfl ?_
              exact hj8 st11 (1 : Int32) h
  refine jr_if_eq (tgt := 17) C dMo_law_5 (by decide) (fun z => ?_) (fun z => ?_)
  · have h := h.1 z
    refine jr_iconst (v := 0) C dMo_law_17 (by decide) ?_
    refine jr_lv (lv' := [(0, .ref (ad 0)), (1, .int l1), (2, .int l2), (3, .int l3)]) [0, 1, 2, 3] rfl ?_
    exact hj3 (0 : Int32) h
  · have h := h.2 z
    refine jr_aload_n (q := 0) C dMo_law_8 rfl rfl ?_
    refine jr_getf (k := 13) C dMo_law_9 inw_Mo (rfl : kC[5]? = _) (by decide) (List.mem_cons_of_mem _ tm3_142) rfl mA_0 rfl ?_
    refine jr_iload_n (q := 1) C dMo_law_12 rfl rfl ?_
    obtain ⟨h4, h⟩ := h
    refine jr_iald (t0 := 0) C dMo_law_13 mA_8 rfl h4 ?_
    refine jr_goto (tgt := 18) C dMo_law_14 (by decide) ?_
    refine jr_lv (lv' := [(0, .ref (ad 0)), (1, .int l1), (2, .int l2), (3, .int l3)]) [0, 1, 2, 3] rfl ?_
    exact hj3 (st1 8 (Int32.toNatClampNeg l1)) h
end MO
