section MO
variable {l : Launch} {D : va_G} {cI cII cL cJ : ClassId} {ad : Nat → Nat} {fr : va_W}
def wp_Mo_alike_6 (post : Int32 → jS → Prop) : Nat → jS → Int32 → Int32 → Int32 → Int32 → Int32 → Prop
  | 0 => fun _ _ _ _ _ _ => False
  | n + 1 => fun st x1 x2 x3 x4 x5 => (((st 0 2) ≤ x5 → ((x4 < x3 → post (0 : Int32) st) ∧ (¬ x4 < x3 → post (1 : Int32) st))) ∧ (¬ (st 0 2) ≤ x5 → wp_Mo_cellOf st x1 x5 (fun r2 st1 => wp_Mo_cellOf st1 x2 x5 (fun r4 st3 => ((¬ r2 = r4 → wp_Mo_alike_6 post n st3 x1 x2 x3 x4 (x5 + (1 : Int32))) ∧ (r2 = r4 → wp_Mo_alike_6 post n st3 x1 x2 x3 (x4 + (1 : Int32)) (x5 + (1 : Int32))))))))
def wp_Mo_alike (st : jS) (l1 : Int32) (l2 : Int32) (l3 : Int32) (post : Int32 → jS → Prop) : Prop :=
  (∃ n7, wp_Mo_alike_6 post n7 st l1 l2 l3 (0 : Int32) (0 : Int32))
set_option maxRecDepth 100000 in
set_option maxHeartbeats 4000000 in
theorem c_Mo_alike {st : jS} {l1 : Int32} {l2 : Int32} {l3 : Int32} {post : Int32 → jS → Prop} (h : wp_Mo_alike st l1 l2 l3 post) : jr_Mi l yMo_alike wMo_alike ({ frames := 1, cells := 0, slots := 0, locals := 22 }) [.ref (ad 0), .int l1, .int l2, .int l3] D kC (kT cI cII cL cJ) (mW cI ad fr st) (mW cI ad fr) post := by
  refine jr_ofz (cc := bMo_alike) (nL := 6) (lv := [(0, .ref (ad 0)), (1, .int l1), (2, .int l2), (3, .int l3)]) (by decide) rfl (Nat.le_of_ble_eq_true rfl) rfl (fun p e s m args below meth c A C hr hlocks => ?_)
  unfold wp_Mo_alike at h
  refine jr_iconst (v := 0) C dMo_alike_0 (by decide) ?_
  refine jr_istore (lv' := [(4, .int (0 : Int32)), (0, .ref (ad 0)), (1, .int l1), (2, .int l2), (3, .int l3)]) C dMo_alike_1 (by decide) rfl ?_
  refine jr_iconst (v := 0) C dMo_alike_3 (by decide) ?_
  refine jr_istore (lv' := [(5, .int (0 : Int32)), (4, .int (0 : Int32)), (0, .ref (ad 0)), (1, .int l1), (2, .int l2), (3, .int l3)]) C dMo_alike_4 (by decide) rfl ?_
  have lp5 : ∀ (n : Nat) (st : jS) (x1 : Int32) (x2 : Int32) (x3 : Int32) (x4 : Int32) (x5 : Int32), wp_Mo_alike_6 post n st x1 x2 x3 x4 x5 → jr_J p l e (headSpec wMo_alike ({ frames := 1, cells := 0, slots := 0, locals := 22 })).room s m args below meth c A D kC 6 0 0 (MQ below (va_Qi post (jr_B D kC (kT cI cII cL cJ) (mW cI ad fr) A) A) args s 0 0 A) (mW cI ad fr st) 6 [(0, .ref (ad 0)), (1, .int x1), (2, .int x2), (3, .int x3), (4, .int x4), (5, .int x5)] [] := by
    intro n
    induction n with
    | zero => intro st x1 x2 x3 x4 x5 h; exact h.elim
    | succ n ih =>
      intro st x1 x2 x3 x4 x5 h
      unfold wp_Mo_alike_6 at h
      refine jr_iload (q := 5) C dMo_alike_6 rfl ?_
      refine jr_aload_n (q := 0) C dMo_alike_8 rfl rfl ?_
      refine jr_getf (k := 2) C dMo_alike_9 inw_Mo (rfl : kC[5]? = _) (by decide) (List.mem_cons_of_mem _ tm3_131) rfl mA_0 rfl ?_
      refine jr_icmp_ge (tgt := 49) C dMo_alike_12 (by decide) (fun z => ?_) (fun z => ?_)
      · have h := h.1 z
        refine jr_iload (q := 4) C dMo_alike_49 rfl ?_
        refine jr_iload_n (q := 3) C dMo_alike_51 rfl rfl ?_
        refine jr_icmp_lt (tgt := 59) C dMo_alike_52 (by decide) (fun z => ?_) (fun z => ?_)
        · have h := h.1 z
          refine jr_iconst (v := 0) C dMo_alike_59 (by decide) ?_
          exact jr_retz C hr rfl hlocks dMo_alike_60 h rfl
        · have h := h.2 z
          refine jr_iconst (v := 1) C dMo_alike_55 (by decide) ?_
          refine jr_goto (tgt := 60) C dMo_alike_56 (by decide) ?_
          exact jr_retz C hr rfl hlocks dMo_alike_60 h rfl
      · have h := h.2 z
        refine jr_aload_n (q := 0) C dMo_alike_15 rfl rfl ?_
        refine jr_iload_n (q := 1) C dMo_alike_16 rfl rfl ?_
        refine jr_iload (q := 5) C dMo_alike_17 rfl ?_
        refine jr_callVi (As := [.int x1, .int x5]) (rest := []) C (c_Mo_cellOf h) (cwV 2 C.2.2.2.2.1 (tg_V tm3_220 tm3_222 tp_21 tm1_7 tm3_223) rfl rfl rfl ⟨rfl, by decide, by decide, by decide⟩ ⟨Nat.le_of_ble_eq_true rfl, Nat.le_of_ble_eq_true rfl⟩) dMo_alike_19 (rfl : kC[5]? = _) mA_0 rfl rfl (Nat.le_of_ble_eq_true rfl) ⟨Nat.le_of_ble_eq_true rfl, Nat.le_of_ble_eq_true rfl⟩ (fun r2 st1 h => ?_)
        refine jr_aload_n (q := 0) C dMo_alike_22 rfl rfl ?_
        refine jr_iload_n (q := 2) C dMo_alike_23 rfl rfl ?_
        refine jr_iload (q := 5) C dMo_alike_24 rfl ?_
        refine jr_callVi (As := [.int x2, .int x5]) (rest := [.int r2]) C (c_Mo_cellOf h) (cwV 2 C.2.2.2.2.1 (tg_V tm3_220 tm3_222 tp_21 tm1_7 tm3_223) rfl rfl rfl ⟨rfl, by decide, by decide, by decide⟩ ⟨Nat.le_of_ble_eq_true rfl, Nat.le_of_ble_eq_true rfl⟩) dMo_alike_26 (rfl : kC[5]? = _) mA_0 rfl rfl (Nat.le_of_ble_eq_true rfl) ⟨Nat.le_of_ble_eq_true rfl, Nat.le_of_ble_eq_true rfl⟩ (fun r4 st3 h => ?_)
        refine jr_icmp_ne (tgt := 39) C dMo_alike_29 (by decide) (fun z => ?_) (fun z => ?_)
        · have h := h.1 z
          refine jr_iload (q := 4) C dMo_alike_39 rfl ?_
          refine jr_istore (lv' := [(4, .int x4), (0, .ref (ad 0)), (1, .int x1), (2, .int x2), (3, .int x3), (5, .int x5)]) C dMo_alike_41 (by decide) rfl ?_
          refine jr_iinc (q := 5) (v := (x5 + (1 : Int32))) (lv' := [(5, .int (x5 + (1 : Int32))), (4, .int x4), (0, .ref (ad 0)), (1, .int x1), (2, .int x2), (3, .int x3)]) C dMo_alike_43 rfl rfl (by decide) rfl ?_
          refine jr_goto (tgt := 6) C dMo_alike_46 (by decide) ?_
          refine jr_lv (lv' := [(0, .ref (ad 0)), (1, .int x1), (2, .int x2), (3, .int x3), (4, .int x4), (5, .int (x5 + (1 : Int32)))]) [2, 3, 4, 5, 1, 0] rfl ?_
          exact ih st3 x1 x2 x3 x4 (x5 + (1 : Int32)) h
        · have h := h.2 z
          refine jr_iload (q := 4) C dMo_alike_32 rfl ?_
          refine jr_iconst (v := 1) C dMo_alike_34 (by decide) ?_
          refine jr_iadd C dMo_alike_35 ?_
          refine jr_goto (tgt := 41) C dMo_alike_36 (by decide) ?_
          refine jr_istore (lv' := [(4, .int (x4 + (1 : Int32))), (0, .ref (ad 0)), (1, .int x1), (2, .int x2), (3, .int x3), (5, .int x5)]) C dMo_alike_41 (by decide) rfl ?_
          refine jr_iinc (q := 5) (v := (x5 + (1 : Int32))) (lv' := [(5, .int (x5 + (1 : Int32))), (4, .int (x4 + (1 : Int32))), (0, .ref (ad 0)), (1, .int x1), (2, .int x2), (3, .int x3)]) C dMo_alike_43 rfl rfl (by decide) rfl ?_
          refine jr_goto (tgt := 6) C dMo_alike_46 (by decide) ?_
          refine jr_lv (lv' := [(0, .ref (ad 0)), (1, .int x1), (2, .int x2), (3, .int x3), (4, .int (x4 + (1 : Int32))), (5, .int (x5 + (1 : Int32)))]) [2, 3, 4, 5, 1, 0] rfl ?_
          exact ih st3 x1 x2 x3 (x4 + (1 : Int32)) (x5 + (1 : Int32)) h
  obtain ⟨n6, h⟩ := h
  refine jr_lv (lv' := [(0, .ref (ad 0)), (1, .int l1), (2, .int l2), (3, .int l3), (4, .int (0 : Int32)), (5, .int (0 : Int32))]) [2, 3, 4, 5, 1, 0] rfl ?_
  exact lp5 n6 st l1 l2 l3 (0 : Int32) (0 : Int32) h
def wp_Mo_groups_199 (post : Int32 → jS → Prop) (kont : jS → Int32 → Int32 → Int32 → Int32 → Int32 → Prop) : Nat → jS → Int32 → Int32 → Int32 → Int32 → Int32 → Prop
  | 0 => fun _ _ _ _ _ _ => False
  | n + 1 => fun st x1 x2 x3 x4 x5 => ((x3 ≤ x5 → kont st x1 x2 x3 x4 x5) ∧ (¬ x3 ≤ x5 → ((x4 = 0 → wp_Mo_groups_199 post kont n st x1 x2 x3 (0 : Int32) (x5 + (1 : Int32))) ∧ (¬ x4 = 0 → vp_in x5 24 ∧ vp_in x3 24 ∧ (((st 11 (Int32.toNatClampNeg x5)) = (st 11 (Int32.toNatClampNeg x3)) → wp_Mo_groups_199 post kont n st x1 x2 x3 (0 : Int32) (x5 + (1 : Int32))) ∧ (¬ (st 11 (Int32.toNatClampNeg x5)) = (st 11 (Int32.toNatClampNeg x3)) → wp_Mo_groups_199 post kont n st x1 x2 x3 (1 : Int32) (x5 + (1 : Int32))))))))
def wp_Mo_groups_185 (post : Int32 → jS → Prop) : Nat → jS → Int32 → Int32 → Int32 → Prop
  | 0 => fun _ _ _ _ => False
  | n + 1 => fun st x1 x2 x3 => (((st 0 4) ≤ x3 → post x2 st) ∧ (¬ (st 0 4) ≤ x3 → (∃ n15, wp_Mo_groups_199 post (fun st9 y10 y11 y12 y13 y14 => ((y13 = 0 → wp_Mo_groups_185 post n st9 y10 y11 (y12 + (1 : Int32))) ∧ (¬ y13 = 0 → wp_Mo_groups_185 post n st9 y10 (y11 + (1 : Int32)) (y12 + (1 : Int32))))) n15 st x1 x2 x3 (1 : Int32) (0 : Int32))))
def wp_Mo_groups_94 (post : Int32 → jS → Prop) (kont : jS → Int32 → Int32 → Int32 → Int32 → Int32 → Int32 → Prop) : Nat → jS → Int32 → Int32 → Int32 → Int32 → Int32 → Int32 → Prop
  | 0 => fun _ _ _ _ _ _ _ => False
  | n + 1 => fun st x1 x2 x3 x4 x5 x6 => (((st 0 4) ≤ x6 → kont st x1 x2 x3 x4 x5 x6) ∧ (¬ (st 0 4) ≤ x6 → vp_in x4 24 ∧ ((x5 = (st 11 (Int32.toNatClampNeg x4)) → kont st x1 x2 x3 x4 x5 x6) ∧ (¬ x5 = (st 11 (Int32.toNatClampNeg x4)) → wp_Mo_alike st x3 x4 x1 (fun r24 st23 => ((r24 = 0 → kont st23 x1 x2 x3 x4 x5 x6) ∧ (¬ r24 = 0 → ((x6 = x4 → vp_in x6 24 ∧ vp_in x6 24 ∧ wp_Mo_groups_94 post kont n (jq st23 11 (Int32.toNatClampNeg x6) (st23 11 (Int32.toNatClampNeg x6))) x1 x2 x3 x4 x5 (x6 + (1 : Int32))) ∧ (¬ x6 = x4 → vp_in x6 24 ∧ ((¬ (st23 11 (Int32.toNatClampNeg x6)) = x5 → vp_in x6 24 ∧ vp_in x6 24 ∧ wp_Mo_groups_94 post kont n (jq st23 11 (Int32.toNatClampNeg x6) (st23 11 (Int32.toNatClampNeg x6))) x1 x2 x3 x4 x5 (x6 + (1 : Int32))) ∧ ((st23 11 (Int32.toNatClampNeg x6)) = x5 → vp_in x4 24 ∧ vp_in x6 24 ∧ wp_Mo_groups_94 post kont n (jq st23 11 (Int32.toNatClampNeg x6) (st23 11 (Int32.toNatClampNeg x4))) x1 x2 x3 x4 x5 (x6 + (1 : Int32)))))))))))))
def wp_Mo_groups_55 (post : Int32 → jS → Prop) : Nat → jS → Int32 → Int32 → Prop
  | 0 => fun _ _ _ => False
  | n + 1 => fun st x1 x2 => ((((st 0 4) * (st 0 4)) ≤ x2 → (∃ n18, wp_Mo_groups_185 post n18 st x1 (0 : Int32) (0 : Int32))) ∧ (¬ ((st 0 4) * (st 0 4)) ≤ x2 → (¬ (st 0 4) = 0) ∧ (¬ (st 0 4) = 0) ∧ vp_in (x2 / (st 0 4)) 24 ∧ (∃ n41, wp_Mo_groups_94 post (fun st34 y35 y36 y37 y38 y39 y40 => wp_Mo_groups_55 post n st34 y35 (y36 + (1 : Int32))) n41 st x1 x2 (x2 / (st 0 4)) (x2 - x2 / (st 0 4) * (st 0 4)) (st 11 (Int32.toNatClampNeg (x2 / (st 0 4)))) (0 : Int32))))
def wp_Mo_groups_32 (post : Int32 → jS → Prop) : Nat → jS → Int32 → Int32 → Prop
  | 0 => fun _ _ _ => False
  | n + 1 => fun st x1 x2 => (((st 0 4) ≤ x2 → (∃ n44, wp_Mo_groups_55 post n44 st x1 (0 : Int32))) ∧ (¬ (st 0 4) ≤ x2 → vp_in x2 24 ∧ wp_Mo_groups_32 post n (jq st 11 (Int32.toNatClampNeg x2) x2) x1 (x2 + (1 : Int32))))
def wp_Mo_groups (st : jS) (l1 : Int32) (post : Int32 → jS → Prop) : Prop :=
  wp_Mo_isIn st l1 (0 : Int32) (st 0 2) (fun r2 st1 => (∃ j3 : Int32 → Prop, (∀ (v4 : Int32), j3 v4 → ((((jq st1 0 0 v4) 0 0) ≤ 0 → (∃ n48, wp_Mo_groups_32 post n48 (jq st1 0 0 v4) l1 (0 : Int32))) ∧ (¬ ((jq st1 0 0 v4) 0 0) ≤ 0 → post (0 : Int32) (jq st1 0 0 v4)))) ∧ ((¬ r2 = 0 → j3 (0 : Int32)) ∧ (r2 = 0 → j3 (1 : Int32)))))
set_option maxRecDepth 100000 in
set_option maxHeartbeats 4000000 in
theorem c_Mo_groups {st : jS} {l1 : Int32} {post : Int32 → jS → Prop} (h : wp_Mo_groups st l1 post) : jr_Mi l yMo_groups wMo_groups ({ frames := 2, cells := 0, slots := 0, locals := 47 }) [.ref (ad 0), .int l1] D kC (kT cI cII cL cJ) (mW cI ad fr st) (mW cI ad fr) post := by
  refine jr_ofi (cc := bMo_groups) (nL := 7) (lv := [(0, .ref (ad 0)), (1, .int l1)]) (by decide) rfl (Nat.le_of_ble_eq_true rfl) rfl (fun p e s m args below meth c A C hr hlocks => ?_)
  unfold wp_Mo_groups at h
  refine jr_aload_n (q := 0) C dMo_groups_0 rfl rfl ?_
  refine jr_iload_n (q := 1) C dMo_groups_1 rfl rfl ?_
  refine jr_iconst (v := 0) C dMo_groups_2 (by decide) ?_
  refine jr_aload_n (q := 0) C dMo_groups_3 rfl rfl ?_
  refine jr_getf (k := 2) C dMo_groups_4 inw_Mo (rfl : kC[5]? = _) (by decide) (List.mem_cons_of_mem _ tm3_131) rfl mA_0 rfl ?_
  refine jr_callSi (As := [.int l1, .int (0 : Int32), .int (st 0 2)]) (rest := [.ref (ad 0)]) C (c_Mo_isIn h) (va_cwS 3 C.2.2.2.2.1 (tg_S tm3_193 tm3_194 tm1_7 tm3_195) rfl rfl rfl ⟨by decide, by decide, by decide⟩ ⟨Nat.le_of_ble_eq_true rfl, Nat.le_of_ble_eq_true rfl⟩) dMo_groups_7 rfl rfl (Nat.le_of_ble_eq_true rfl) ⟨Nat.le_of_ble_eq_true rfl, Nat.le_of_ble_eq_true rfl⟩ (fun r2 st1 h => ?_)
  obtain ⟨j3, j3r, h⟩ := h
  have hj3 : ∀ (v4 : Int32), j3 v4 → jr_J p l e (headSpec wMo_groups ({ frames := 2, cells := 0, slots := 0, locals := 47 })).room s m args below meth c A D kC 7 0 0 (MQ below (va_Qi post (jr_B D kC (kT cI cII cL cJ) (mW cI ad fr) A) A) args s 0 0 A) (mW cI ad fr st1) 18 [(0, .ref (ad 0)), (1, .int l1)] [.int v4, .ref (ad 0)] := by
    intro v4 h
    have h := j3r v4 h
    refine jr_putf (k := 0) C dMo_groups_18 inw_Mo ty_Mo ty_Mo_ok nm_Mo (rfl : kC[5]? = _) (by decide) (List.mem_cons_of_mem _ tm3_129) rfl rfl (ty := .int) rfl rfl rfl mA_0 (Nat.le_of_ble_eq_true rfl) ?_
    refine jr_ws (ws' := mW cI ad fr (jq st1 0 0 v4)) (mP_0_0) ?_
    refine jr_aload_n (q := 0) C dMo_groups_21 rfl rfl ?_
    refine jr_getf (k := 0) C dMo_groups_22 inw_Mo (rfl : kC[5]? = _) (by decide) (List.mem_cons_of_mem _ tm3_129) rfl mA_0 rfl ?_
    refine jr_if_le (tgt := 30) C dMo_groups_25 (by decide) (fun z => ?_) (fun z => ?_)
    · have h := h.1 z
      refine jr_iconst (v := 0) C dMo_groups_30 (by decide) ?_
      refine jr_istore_n (lv' := [(2, .int (0 : Int32)), (0, .ref (ad 0)), (1, .int l1)]) C dMo_groups_31 rfl (by decide) rfl ?_
      have lp46 : ∀ (n : Nat) (st : jS) (x1 : Int32) (x2 : Int32), wp_Mo_groups_32 post n st x1 x2 → jr_J p l e (headSpec wMo_groups ({ frames := 2, cells := 0, slots := 0, locals := 47 })).room s m args below meth c A D kC 7 0 0 (MQ below (va_Qi post (jr_B D kC (kT cI cII cL cJ) (mW cI ad fr) A) A) args s 0 0 A) (mW cI ad fr st) 32 [(0, .ref (ad 0)), (1, .int x1), (2, .int x2)] [] := by
        intro n
        induction n with
        | zero => intro st x1 x2 h; exact h.elim
        | succ n ih =>
          intro st x1 x2 h
          unfold wp_Mo_groups_32 at h
          refine jr_iload_n (q := 2) C dMo_groups_32 rfl rfl ?_
          refine jr_aload_n (q := 0) C dMo_groups_33 rfl rfl ?_
          refine jr_getf (k := 4) C dMo_groups_34 inw_Mo (rfl : kC[5]? = _) (by decide) (List.mem_cons_of_mem _ tm3_133) rfl mA_0 rfl ?_
          refine jr_icmp_ge (tgt := 53) C dMo_groups_37 (by decide) (fun z => ?_) (fun z => ?_)
          · have h := h.1 z
            refine jr_iconst (v := 0) C dMo_groups_53 (by decide) ?_
            refine jr_istore_n (lv' := [(2, .int (0 : Int32)), (0, .ref (ad 0)), (1, .int x1)]) C dMo_groups_54 rfl (by decide) rfl ?_
            have lp42 : ∀ (n : Nat) (st : jS) (x1 : Int32) (x2 : Int32), wp_Mo_groups_55 post n st x1 x2 → jr_J p l e (headSpec wMo_groups ({ frames := 2, cells := 0, slots := 0, locals := 47 })).room s m args below meth c A D kC 7 0 0 (MQ below (va_Qi post (jr_B D kC (kT cI cII cL cJ) (mW cI ad fr) A) A) args s 0 0 A) (mW cI ad fr st) 55 [(0, .ref (ad 0)), (1, .int x1), (2, .int x2)] [] := by
              intro n
              induction n with
              | zero => intro st x1 x2 h; exact h.elim
              | succ n ih =>
                intro st x1 x2 h
                unfold wp_Mo_groups_55 at h
                refine jr_iload_n (q := 2) C dMo_groups_55 rfl rfl ?_
                refine jr_aload_n (q := 0) C dMo_groups_56 rfl rfl ?_
                refine jr_getf (k := 4) C dMo_groups_57 inw_Mo (rfl : kC[5]? = _) (by decide) (List.mem_cons_of_mem _ tm3_133) rfl mA_0 rfl ?_
                refine jr_aload_n (q := 0) C dMo_groups_60 rfl rfl ?_
                refine jr_getf (k := 4) C dMo_groups_61 inw_Mo (rfl : kC[5]? = _) (by decide) (List.mem_cons_of_mem _ tm3_133) rfl mA_0 rfl ?_
                refine jr_imul C dMo_groups_64 ?_
                refine jr_icmp_ge (tgt := 181) C dMo_groups_65 (by decide) (fun z => ?_) (fun z => ?_)
                · have h := h.1 z
                  refine jr_iconst (v := 0) C dMo_groups_181 (by decide) ?_
                  refine jr_istore_n (lv' := [(2, .int (0 : Int32)), (0, .ref (ad 0)), (1, .int x1)]) C dMo_groups_182 rfl (by decide) rfl ?_
                  refine jr_iconst (v := 0) C dMo_groups_183 (by decide) ?_
                  refine jr_istore_n (lv' := [(3, .int (0 : Int32)), (2, .int (0 : Int32)), (0, .ref (ad 0)), (1, .int x1)]) C dMo_groups_184 rfl (by decide) rfl ?_
                  have lp16 : ∀ (n : Nat) (st : jS) (x1 : Int32) (x2 : Int32) (x3 : Int32), wp_Mo_groups_185 post n st x1 x2 x3 → jr_J p l e (headSpec wMo_groups ({ frames := 2, cells := 0, slots := 0, locals := 47 })).room s m args below meth c A D kC 7 0 0 (MQ below (va_Qi post (jr_B D kC (kT cI cII cL cJ) (mW cI ad fr) A) A) args s 0 0 A) (mW cI ad fr st) 185 [(0, .ref (ad 0)), (1, .int x1), (2, .int x2), (3, .int x3)] [] := by
                    intro n
                    induction n with
                    | zero => intro st x1 x2 x3 h; exact h.elim
                    | succ n ih =>
                      intro st x1 x2 x3 h
                      unfold wp_Mo_groups_185 at h
                      refine jr_iload_n (q := 3) C dMo_groups_185 rfl rfl ?_
                      refine jr_aload_n (q := 0) C dMo_groups_186 rfl rfl ?_
                      refine jr_getf (k := 4) C dMo_groups_187 inw_Mo (rfl : kC[5]? = _) (by decide) (List.mem_cons_of_mem _ tm3_133) rfl mA_0 rfl ?_
                      refine jr_icmp_ge (tgt := 258) C dMo_groups_190 (by decide) (fun z => ?_) (fun z => ?_)
                      · have h := h.1 z
                        refine jr_iload_n (q := 2) C dMo_groups_258 rfl rfl ?_
                        exact jr_reti C hr hlocks dMo_groups_259 h rfl
                      · have h := h.2 z
                        refine jr_iconst (v := 1) C dMo_groups_193 (by decide) ?_
                        refine jr_istore (lv' := [(4, .int (1 : Int32)), (0, .ref (ad 0)), (1, .int x1), (2, .int x2), (3, .int x3)]) C dMo_groups_194 (by decide) rfl ?_
                        refine jr_iconst (v := 0) C dMo_groups_196 (by decide) ?_
                        refine jr_istore (lv' := [(5, .int (0 : Int32)), (4, .int (1 : Int32)), (0, .ref (ad 0)), (1, .int x1), (2, .int x2), (3, .int x3)]) C dMo_groups_197 (by decide) rfl ?_
                        have lp7 : ∀ (kont : jS → Int32 → Int32 → Int32 → Int32 → Int32 → Prop) (hk : ∀ (st : jS) (x1 : Int32) (x2 : Int32) (x3 : Int32) (x4 : Int32) (x5 : Int32), kont st x1 x2 x3 x4 x5 → jr_J p l e (headSpec wMo_groups ({ frames := 2, cells := 0, slots := 0, locals := 47 })).room s m args below meth c A D kC 7 0 0 (MQ below (va_Qi post (jr_B D kC (kT cI cII cL cJ) (mW cI ad fr) A) A) args s 0 0 A) (mW cI ad fr st) 239 [(0, .ref (ad 0)), (1, .int x1), (2, .int x2), (3, .int x3), (4, .int x4), (5, .int x5)] []) (n : Nat) (st : jS) (x1 : Int32) (x2 : Int32) (x3 : Int32) (x4 : Int32) (x5 : Int32), wp_Mo_groups_199 post kont n st x1 x2 x3 x4 x5 → jr_J p l e (headSpec wMo_groups ({ frames := 2, cells := 0, slots := 0, locals := 47 })).room s m args below meth c A D kC 7 0 0 (MQ below (va_Qi post (jr_B D kC (kT cI cII cL cJ) (mW cI ad fr) A) A) args s 0 0 A) (mW cI ad fr st) 199 [(0, .ref (ad 0)), (1, .int x1), (2, .int x2), (3, .int x3), (4, .int x4), (5, .int x5)] [] := by
                          intro kont hk n
                          induction n with
                          | zero => intro st x1 x2 x3 x4 x5 h; exact h.elim
                          | succ n ih =>
                            intro st x1 x2 x3 x4 x5 h
                            unfold wp_Mo_groups_199 at h
                            refine jr_iload (q := 5) C dMo_groups_199 rfl ?_
                            refine jr_iload_n (q := 3) C dMo_groups_201 rfl rfl ?_
                            refine jr_icmp_ge (tgt := 239) C dMo_groups_202 (by decide) (fun z => ?_) (fun z => ?_)
                            · have h := h.1 z
                              refine jr_lv (lv' := [(0, .ref (ad 0)), (1, .int x1), (2, .int x2), (3, .int x3), (4, .int x4), (5, .int x5)]) [0, 1, 2, 3, 4, 5] rfl ?_
                              exact hk st x1 x2 x3 x4 x5 h
                            · have h := h.2 z
                              refine jr_iload (q := 4) C dMo_groups_205 rfl ?_
                              refine jr_if_eq (tgt := 230) C dMo_groups_207 (by decide) (fun z => ?_) (fun z => ?_)
                              · have h := h.1 z
                                refine jr_iconst (v := 0) C dMo_groups_230 (by decide) ?_
                                refine jr_istore (lv' := [(4, .int (0 : Int32)), (0, .ref (ad 0)), (1, .int x1), (2, .int x2), (3, .int x3), (5, .int x5)]) C dMo_groups_231 (by decide) rfl ?_
                                refine jr_iinc (q := 5) (v := (x5 + (1 : Int32))) (lv' := [(5, .int (x5 + (1 : Int32))), (4, .int (0 : Int32)), (0, .ref (ad 0)), (1, .int x1), (2, .int x2), (3, .int x3)]) C dMo_groups_233 rfl rfl (by decide) rfl ?_
                                refine jr_goto (tgt := 199) C dMo_groups_236 (by decide) ?_
                                refine jr_lv (lv' := [(0, .ref (ad 0)), (1, .int x1), (2, .int x2), (3, .int x3), (4, .int (0 : Int32)), (5, .int (x5 + (1 : Int32)))]) [2, 3, 4, 5, 1, 0] rfl ?_
                                exact ih st x1 x2 x3 (0 : Int32) (x5 + (1 : Int32)) h
                              · have h := h.2 z
                                refine jr_aload_n (q := 0) C dMo_groups_210 rfl rfl ?_
                                refine jr_getf (k := 16) C dMo_groups_211 inw_Mo (rfl : kC[5]? = _) (by decide) (List.mem_cons_of_mem _ tm3_145) rfl mA_0 rfl ?_
                                refine jr_iload (q := 5) C dMo_groups_214 rfl ?_
                                obtain ⟨h5, h⟩ := h
                                refine jr_iald (t0 := 0) C dMo_groups_216 mA_11 rfl h5 ?_
                                refine jr_aload_n (q := 0) C dMo_groups_217 rfl rfl ?_
                                refine jr_getf (k := 16) C dMo_groups_218 inw_Mo (rfl : kC[5]? = _) (by decide) (List.mem_cons_of_mem _ tm3_145) rfl mA_0 rfl ?_
                                refine jr_iload_n (q := 3) C dMo_groups_221 rfl rfl ?_
                                obtain ⟨h6, h⟩ := h
                                refine jr_iald (t0 := 0) C dMo_groups_222 mA_11 rfl h6 ?_
                                refine jr_icmp_eq (tgt := 230) C dMo_groups_223 (by decide) (fun z => ?_) (fun z => ?_)
                                · have h := h.1 z
                                  refine jr_iconst (v := 0) C dMo_groups_230 (by decide) ?_
                                  refine jr_istore (lv' := [(4, .int (0 : Int32)), (0, .ref (ad 0)), (1, .int x1), (2, .int x2), (3, .int x3), (5, .int x5)]) C dMo_groups_231 (by decide) rfl ?_
                                  refine jr_iinc (q := 5) (v := (x5 + (1 : Int32))) (lv' := [(5, .int (x5 + (1 : Int32))), (4, .int (0 : Int32)), (0, .ref (ad 0)), (1, .int x1), (2, .int x2), (3, .int x3)]) C dMo_groups_233 rfl rfl (by decide) rfl ?_
                                  refine jr_goto (tgt := 199) C dMo_groups_236 (by decide) ?_
                                  refine jr_lv (lv' := [(0, .ref (ad 0)), (1, .int x1), (2, .int x2), (3, .int x3), (4, .int (0 : Int32)), (5, .int (x5 + (1 : Int32)))]) [2, 3, 4, 5, 1, 0] rfl ?_
                                  exact ih st x1 x2 x3 (0 : Int32) (x5 + (1 : Int32)) h
                                · have h := h.2 z
                                  refine jr_iconst (v := 1) C dMo_groups_226 (by decide) ?_
                                  refine jr_goto (tgt := 231) C dMo_groups_227 (by decide) ?_
                                  refine jr_istore (lv' := [(4, .int (1 : Int32)), (0, .ref (ad 0)), (1, .int x1), (2, .int x2), (3, .int x3), (5, .int x5)]) C dMo_groups_231 (by decide) rfl ?_
                                  refine jr_iinc (q := 5) (v := (x5 + (1 : Int32))) (lv' := [(5, .int (x5 + (1 : Int32))), (4, .int (1 : Int32)), (0, .ref (ad 0)), (1, .int x1), (2, .int x2), (3, .int x3)]) C dMo_groups_233 rfl rfl (by decide) rfl ?_
                                  refine jr_goto (tgt := 199) C dMo_groups_236 (by decide) ?_
                                  refine jr_lv (lv' := [(0, .ref (ad 0)), (1, .int x1), (2, .int x2), (3, .int x3), (4, .int (1 : Int32)), (5, .int (x5 + (1 : Int32)))]) [2, 3, 4, 5, 1, 0] rfl ?_
                                  exact ih st x1 x2 x3 (1 : Int32) (x5 + (1 : Int32)) h
                        obtain ⟨n8, h⟩ := h
                        refine jr_lv (lv' := [(0, .ref (ad 0)), (1, .int x1), (2, .int x2), (3, .int x3), (4, .int (1 : Int32)), (5, .int (0 : Int32))]) [2, 3, 4, 5, 1, 0] rfl ?_
                        refine lp7 _ (fun st9 y10 y11 y12 y13 y14 h => ?_) n8 st x1 x2 x3 (1 : Int32) (0 : Int32) h
                        refine jr_iload (q := 4) C dMo_groups_239 rfl ?_
                        refine jr_if_eq (tgt := 250) C dMo_groups_241 (by decide) (fun z => ?_) (fun z => ?_)
                        · have h := h.1 z
                          refine jr_iload_n (q := 2) C dMo_groups_250 rfl rfl ?_
                          refine jr_istore_n (lv' := [(2, .int y11), (0, .ref (ad 0)), (1, .int y10), (3, .int y12), (4, .int y13), (5, .int y14)]) C dMo_groups_251 rfl (by decide) rfl ?_
                          refine jr_iinc (q := 3) (v := (y12 + (1 : Int32))) (lv' := [(3, .int (y12 + (1 : Int32))), (2, .int y11), (0, .ref (ad 0)), (1, .int y10), (4, .int y13), (5, .int y14)]) C dMo_groups_252 rfl rfl (by decide) rfl ?_
                          refine jr_goto (tgt := 185) C dMo_groups_255 (by decide) ?_
                          refine jr_lv (lv' := [(0, .ref (ad 0)), (1, .int y10), (2, .int y11), (3, .int (y12 + (1 : Int32)))]) [2, 3, 1, 0] rfl ?_
                          exact ih st9 y10 y11 (y12 + (1 : Int32)) h
                        · have h := h.2 z
                          refine jr_iload_n (q := 2) C dMo_groups_244 rfl rfl ?_
                          refine jr_iconst (v := 1) C dMo_groups_245 (by decide) ?_
                          refine jr_iadd C dMo_groups_246 ?_
                          refine jr_goto (tgt := 251) C dMo_groups_247 (by decide) ?_
                          refine jr_istore_n (lv' := [(2, .int (y11 + (1 : Int32))), (0, .ref (ad 0)), (1, .int y10), (3, .int y12), (4, .int y13), (5, .int y14)]) C dMo_groups_251 rfl (by decide) rfl ?_
                          refine jr_iinc (q := 3) (v := (y12 + (1 : Int32))) (lv' := [(3, .int (y12 + (1 : Int32))), (2, .int (y11 + (1 : Int32))), (0, .ref (ad 0)), (1, .int y10), (4, .int y13), (5, .int y14)]) C dMo_groups_252 rfl rfl (by decide) rfl ?_
                          refine jr_goto (tgt := 185) C dMo_groups_255 (by decide) ?_
                          refine jr_lv (lv' := [(0, .ref (ad 0)), (1, .int y10), (2, .int (y11 + (1 : Int32))), (3, .int (y12 + (1 : Int32)))]) [2, 3, 1, 0] rfl ?_
                          exact ih st9 y10 (y11 + (1 : Int32)) (y12 + (1 : Int32)) h
                  obtain ⟨n17, h⟩ := h
                  refine jr_lv (lv' := [(0, .ref (ad 0)), (1, .int x1), (2, .int (0 : Int32)), (3, .int (0 : Int32))]) [2, 3, 1, 0] rfl ?_
                  exact lp16 n17 st x1 (0 : Int32) (0 : Int32) h
                · have h := h.2 z
                  refine jr_iload_n (q := 2) C dMo_groups_68 rfl rfl ?_
                  refine jr_aload_n (q := 0) C dMo_groups_69 rfl rfl ?_
                  refine jr_getf (k := 4) C dMo_groups_70 inw_Mo (rfl : kC[5]? = _) (by decide) (List.mem_cons_of_mem _ tm3_133) rfl mA_0 rfl ?_
                  obtain ⟨h19, h⟩ := h
                  refine jr_idiv C dMo_groups_73 h19 ?_
                  refine jr_istore_n (lv' := [(3, .int (x2 / (st 0 4))), (0, .ref (ad 0)), (1, .int x1), (2, .int x2)]) C dMo_groups_74 rfl (by decide) rfl ?_
                  refine jr_iload_n (q := 3) C dMo_groups_75 rfl rfl ?_
                  refine jr_aload_n (q := 1) C dMo_groups_76 rfl rfl ?_
                  refine jr_getf (k := 4) C dMo_groups_77 inw_Mo (rfl : kC[5]? = _) (by decide) (List.mem_cons_of_mem _ tm3_133) rfl mA_0 rfl ?_
                  obtain ⟨h20, h⟩ := h
                  refine jr_irem C dMo_groups_80 h20 ?_
                  refine jr_istore (lv' := [(4, .int (x2 - x2 / (st 0 4) * (st 0 4))), (3, .int (x2 / (st 0 4))), (0, .ref (ad 0)), (1, .int x1), (2, .int x2)]) C dMo_groups_81 (by decide) rfl ?_
                  refine jr_aload_n (q := 2) C dMo_groups_83 rfl rfl ?_
                  refine jr_getf (k := 16) C dMo_groups_84 inw_Mo (rfl : kC[5]? = _) (by decide) (List.mem_cons_of_mem _ tm3_145) rfl mA_0 rfl ?_
                  refine jr_iload_n (q := 1) C dMo_groups_87 rfl rfl ?_
                  obtain ⟨h21, h⟩ := h
                  refine jr_iald (t0 := 0) C dMo_groups_88 mA_11 rfl h21 ?_
                  refine jr_istore (lv' := [(5, .int (st 11 (Int32.toNatClampNeg (x2 / (st 0 4))))), (4, .int (x2 - x2 / (st 0 4) * (st 0 4))), (3, .int (x2 / (st 0 4))), (0, .ref (ad 0)), (1, .int x1), (2, .int x2)]) C dMo_groups_89 (by decide) rfl ?_
                  refine jr_iconst (v := 0) C dMo_groups_91 (by decide) ?_
                  refine jr_istore (lv' := [(6, .int (0 : Int32)), (5, .int (st 11 (Int32.toNatClampNeg (x2 / (st 0 4))))), (4, .int (x2 - x2 / (st 0 4) * (st 0 4))), (3, .int (x2 / (st 0 4))), (0, .ref (ad 0)), (1, .int x1), (2, .int x2)]) C dMo_groups_92 (by decide) rfl ?_
                  have lp32 : ∀ (kont : jS → Int32 → Int32 → Int32 → Int32 → Int32 → Int32 → Prop) (hk : ∀ (st : jS) (x1 : Int32) (x2 : Int32) (x3 : Int32) (x4 : Int32) (x5 : Int32) (x6 : Int32), kont st x1 x2 x3 x4 x5 x6 → jr_J p l e (headSpec wMo_groups ({ frames := 2, cells := 0, slots := 0, locals := 47 })).room s m args below meth c A D kC 7 0 0 (MQ below (va_Qi post (jr_B D kC (kT cI cII cL cJ) (mW cI ad fr) A) A) args s 0 0 A) (mW cI ad fr st) 175 [(0, .ref (ad 0)), (1, .int x1), (2, .int x2), (3, .int x3), (4, .int x4), (5, .int x5), (6, .int x6)] []) (n : Nat) (st : jS) (x1 : Int32) (x2 : Int32) (x3 : Int32) (x4 : Int32) (x5 : Int32) (x6 : Int32), wp_Mo_groups_94 post kont n st x1 x2 x3 x4 x5 x6 → jr_J p l e (headSpec wMo_groups ({ frames := 2, cells := 0, slots := 0, locals := 47 })).room s m args below meth c A D kC 7 0 0 (MQ below (va_Qi post (jr_B D kC (kT cI cII cL cJ) (mW cI ad fr) A) A) args s 0 0 A) (mW cI ad fr st) 94 [(0, .ref (ad 0)), (1, .int x1), (2, .int x2), (3, .int x3), (4, .int x4), (5, .int x5), (6, .int x6)] [] := by
                    intro kont hk n
                    induction n with
                    | zero => intro st x1 x2 x3 x4 x5 x6 h; exact h.elim
                    | succ n ih =>
                      intro st x1 x2 x3 x4 x5 x6 h
                      unfold wp_Mo_groups_94 at h
                      refine jr_iload (q := 6) C dMo_groups_94 rfl ?_
                      refine jr_aload_n (q := 0) C dMo_groups_96 rfl rfl ?_
                      refine jr_getf (k := 4) C dMo_groups_97 inw_Mo (rfl : kC[5]? = _) (by decide) (List.mem_cons_of_mem _ tm3_133) rfl mA_0 rfl ?_
                      refine jr_icmp_ge (tgt := 175) C dMo_groups_100 (by decide) (fun z => ?_) (fun z => ?_)
                      · have h := h.1 z
                        refine jr_lv (lv' := [(0, .ref (ad 0)), (1, .int x1), (2, .int x2), (3, .int x3), (4, .int x4), (5, .int x5), (6, .int x6)]) [0, 1, 2, 3, 4, 5, 6] rfl ?_
                        exact hk st x1 x2 x3 x4 x5 x6 h
                      · have h := h.2 z
                        refine jr_iload (q := 5) C dMo_groups_103 rfl ?_
                        refine jr_aload_n (q := 0) C dMo_groups_105 rfl rfl ?_
                        refine jr_getf (k := 16) C dMo_groups_106 inw_Mo (rfl : kC[5]? = _) (by decide) (List.mem_cons_of_mem _ tm3_145) rfl mA_0 rfl ?_
                        refine jr_iload (q := 4) C dMo_groups_109 rfl ?_
                        obtain ⟨h22, h⟩ := h
                        refine jr_iald (t0 := 0) C dMo_groups_111 mA_11 rfl h22 ?_
                        refine jr_icmp_eq (tgt := 175) C dMo_groups_112 (by decide) (fun z => ?_) (fun z => ?_)
                        · have h := h.1 z
                          refine jr_lv (lv' := [(0, .ref (ad 0)), (1, .int x1), (2, .int x2), (3, .int x3), (4, .int x4), (5, .int x5), (6, .int x6)]) [0, 1, 2, 3, 4, 5, 6] rfl ?_
                          exact hk st x1 x2 x3 x4 x5 x6 h
                        · have h := h.2 z
                          refine jr_aload_n (q := 0) C dMo_groups_115 rfl rfl ?_
                          refine jr_iload_n (q := 3) C dMo_groups_116 rfl rfl ?_
                          refine jr_iload (q := 4) C dMo_groups_117 rfl ?_
                          refine jr_iload_n (q := 1) C dMo_groups_119 rfl rfl ?_
                          refine jr_callVi (As := [.int x3, .int x4, .int x1]) (rest := []) C (c_Mo_alike h) (cwV 3 C.2.2.2.2.1 (tg_V tm4_42 tm4_44 tp_25 tm1_7 tm4_45) rfl rfl rfl ⟨rfl, by decide, by decide, by decide⟩ ⟨Nat.le_of_ble_eq_true rfl, Nat.le_of_ble_eq_true rfl⟩) dMo_groups_120 (rfl : kC[5]? = _) mA_0 rfl rfl (Nat.le_of_ble_eq_true rfl) ⟨Nat.le_of_ble_eq_true rfl, Nat.le_of_ble_eq_true rfl⟩ (fun r24 st23 h => ?_)
                          refine jr_if_eq (tgt := 175) C dMo_groups_123 (by decide) (fun z => ?_) (fun z => ?_)
                          · have h := h.1 z
                            refine jr_lv (lv' := [(0, .ref (ad 0)), (1, .int x1), (2, .int x2), (3, .int x3), (4, .int x4), (5, .int x5), (6, .int x6)]) [0, 1, 2, 3, 4, 5, 6] rfl ?_
                            exact hk st23 x1 x2 x3 x4 x5 x6 h
                          · have h := h.2 z
                            refine jr_aload_n (q := 0) C dMo_groups_126 rfl rfl ?_
                            refine jr_getf (k := 16) C dMo_groups_127 inw_Mo (rfl : kC[5]? = _) (by decide) (List.mem_cons_of_mem _ tm3_145) rfl mA_0 rfl ?_
                            refine jr_iload (q := 6) C dMo_groups_130 rfl ?_
                            refine jr_iload (q := 6) C dMo_groups_132 rfl ?_
                            refine jr_iload (q := 4) C dMo_groups_134 rfl ?_
                            refine jr_icmp_eq (tgt := 161) C dMo_groups_136 (by decide) (fun z => ?_) (fun z => ?_)
                            · have h := h.1 z
                              refine jr_aload_n (q := 0) C dMo_groups_161 rfl rfl ?_
                              refine jr_getf (k := 16) C dMo_groups_162 inw_Mo (rfl : kC[5]? = _) (by decide) (List.mem_cons_of_mem _ tm3_145) rfl mA_0 rfl ?_
                              refine jr_iload (q := 6) C dMo_groups_165 rfl ?_
                              obtain ⟨h25, h⟩ := h
                              refine jr_iald (t0 := 0) C dMo_groups_167 mA_11 rfl h25 ?_
                              obtain ⟨h26, h⟩ := h
                              refine jr_iast (t0 := 0) C dMo_groups_168 mA_11 rfl h26 ?_
                              refine jr_ws (ws' := mW cI ad fr (jq st23 11 (Int32.toNatClampNeg x6) (st23 11 (Int32.toNatClampNeg x6)))) (mP_11) ?_
                              refine jr_iinc (q := 6) (v := (x6 + (1 : Int32))) (lv' := [(6, .int (x6 + (1 : Int32))), (0, .ref (ad 0)), (1, .int x1), (2, .int x2), (3, .int x3), (4, .int x4), (5, .int x5)]) C dMo_groups_169 rfl rfl (by decide) rfl ?_
                              refine jr_goto (tgt := 94) C dMo_groups_172 (by decide) ?_
                              refine jr_lv (lv' := [(0, .ref (ad 0)), (1, .int x1), (2, .int x2), (3, .int x3), (4, .int x4), (5, .int x5), (6, .int (x6 + (1 : Int32)))]) [1, 2, 3, 4, 5, 6, 0] rfl ?_
                              exact ih (jq st23 11 (Int32.toNatClampNeg x6) (st23 11 (Int32.toNatClampNeg x6))) x1 x2 x3 x4 x5 (x6 + (1 : Int32)) h
                            · have h := h.2 z
                              refine jr_aload_n (q := 0) C dMo_groups_139 rfl rfl ?_
                              refine jr_getf (k := 16) C dMo_groups_140 inw_Mo (rfl : kC[5]? = _) (by decide) (List.mem_cons_of_mem _ tm3_145) rfl mA_0 rfl ?_
                              refine jr_iload (q := 6) C dMo_groups_143 rfl ?_
                              obtain ⟨h27, h⟩ := h
                              refine jr_iald (t0 := 0) C dMo_groups_145 mA_11 rfl h27 ?_
                              refine jr_iload (q := 5) C dMo_groups_146 rfl ?_
                              refine jr_icmp_ne (tgt := 161) C dMo_groups_148 (by decide) (fun z => ?_) (fun z => ?_)
                              · have h := h.1 z
                                refine jr_aload_n (q := 0) C dMo_groups_161 rfl rfl ?_
                                refine jr_getf (k := 16) C dMo_groups_162 inw_Mo (rfl : kC[5]? = _) (by decide) (List.mem_cons_of_mem _ tm3_145) rfl mA_0 rfl ?_
                                refine jr_iload (q := 6) C dMo_groups_165 rfl ?_
                                obtain ⟨h28, h⟩ := h
                                refine jr_iald (t0 := 0) C dMo_groups_167 mA_11 rfl h28 ?_
                                obtain ⟨h29, h⟩ := h
                                refine jr_iast (t0 := 0) C dMo_groups_168 mA_11 rfl h29 ?_
                                refine jr_ws (ws' := mW cI ad fr (jq st23 11 (Int32.toNatClampNeg x6) (st23 11 (Int32.toNatClampNeg x6)))) (mP_11) ?_
                                refine jr_iinc (q := 6) (v := (x6 + (1 : Int32))) (lv' := [(6, .int (x6 + (1 : Int32))), (0, .ref (ad 0)), (1, .int x1), (2, .int x2), (3, .int x3), (4, .int x4), (5, .int x5)]) C dMo_groups_169 rfl rfl (by decide) rfl ?_
                                refine jr_goto (tgt := 94) C dMo_groups_172 (by decide) ?_
                                refine jr_lv (lv' := [(0, .ref (ad 0)), (1, .int x1), (2, .int x2), (3, .int x3), (4, .int x4), (5, .int x5), (6, .int (x6 + (1 : Int32)))]) [1, 2, 3, 4, 5, 6, 0] rfl ?_
                                exact ih (jq st23 11 (Int32.toNatClampNeg x6) (st23 11 (Int32.toNatClampNeg x6))) x1 x2 x3 x4 x5 (x6 + (1 : Int32)) h
                              · have h := h.2 z
                                refine jr_aload_n (q := 0) C dMo_groups_151 rfl rfl ?_
                                refine jr_getf (k := 16) C dMo_groups_152 inw_Mo (rfl : kC[5]? = _) (by decide) (List.mem_cons_of_mem _ tm3_145) rfl mA_0 rfl ?_
                                refine jr_iload (q := 4) C dMo_groups_155 rfl ?_
                                obtain ⟨h30, h⟩ := h
                                refine jr_iald (t0 := 0) C dMo_groups_157 mA_11 rfl h30 ?_
                                refine jr_goto (tgt := 168) C dMo_groups_158 (by decide) ?_
                                obtain ⟨h31, h⟩ := h
                                refine jr_iast (t0 := 0) C dMo_groups_168 mA_11 rfl h31 ?_
                                refine jr_ws (ws' := mW cI ad fr (jq st23 11 (Int32.toNatClampNeg x6) (st23 11 (Int32.toNatClampNeg x4)))) (mP_11) ?_
                                refine jr_iinc (q := 6) (v := (x6 + (1 : Int32))) (lv' := [(6, .int (x6 + (1 : Int32))), (0, .ref (ad 0)), (1, .int x1), (2, .int x2), (3, .int x3), (4, .int x4), (5, .int x5)]) C dMo_groups_169 rfl rfl (by decide) rfl ?_
                                refine jr_goto (tgt := 94) C dMo_groups_172 (by decide) ?_
                                refine jr_lv (lv' := [(0, .ref (ad 0)), (1, .int x1), (2, .int x2), (3, .int x3), (4, .int x4), (5, .int x5), (6, .int (x6 + (1 : Int32)))]) [1, 2, 3, 4, 5, 6, 0] rfl ?_
                                exact ih (jq st23 11 (Int32.toNatClampNeg x6) (st23 11 (Int32.toNatClampNeg x4))) x1 x2 x3 x4 x5 (x6 + (1 : Int32)) h
                  obtain ⟨n33, h⟩ := h
                  refine jr_lv (lv' := [(0, .ref (ad 0)), (1, .int x1), (2, .int x2), (3, .int (x2 / (st 0 4))), (4, .int (x2 - x2 / (st 0 4) * (st 0 4))), (5, .int (st 11 (Int32.toNatClampNeg (x2 / (st 0 4))))), (6, .int (0 : Int32))]) [4, 5, 6, 3, 2, 1, 0] rfl ?_
                  refine lp32 _ (fun st34 y35 y36 y37 y38 y39 y40 h => ?_) n33 st x1 x2 (x2 / (st 0 4)) (x2 - x2 / (st 0 4) * (st 0 4)) (st 11 (Int32.toNatClampNeg (x2 / (st 0 4)))) (0 : Int32) h
                  refine jr_iinc (q := 2) (v := (y36 + (1 : Int32))) (lv' := [(2, .int (y36 + (1 : Int32))), (0, .ref (ad 0)), (1, .int y35), (3, .int y37), (4, .int y38), (5, .int y39), (6, .int y40)]) C dMo_groups_175 rfl rfl (by decide) rfl ?_
                  refine jr_goto (tgt := 55) C dMo_groups_178 (by decide) ?_
                  refine jr_lv (lv' := [(0, .ref (ad 0)), (1, .int y35), (2, .int (y36 + (1 : Int32)))]) [1, 2, 0] rfl ?_
                  exact ih st34 y35 (y36 + (1 : Int32)) h
            obtain ⟨n43, h⟩ := h
            refine jr_lv (lv' := [(0, .ref (ad 0)), (1, .int x1), (2, .int (0 : Int32))]) [1, 2, 0] rfl ?_
            exact lp42 n43 st x1 (0 : Int32) h
          · have h := h.2 z
            refine jr_aload_n (q := 0) C dMo_groups_40 rfl rfl ?_
            refine jr_getf (k := 16) C dMo_groups_41 inw_Mo (rfl : kC[5]? = _) (by decide) (List.mem_cons_of_mem _ tm3_145) rfl mA_0 rfl ?_
            refine jr_iload_n (q := 2) C dMo_groups_44 rfl rfl ?_
            refine jr_iload_n (q := 2) C dMo_groups_45 rfl rfl ?_
            obtain ⟨h45, h⟩ := h
            refine jr_iast (t0 := 0) C dMo_groups_46 mA_11 rfl h45 ?_
            refine jr_ws (ws' := mW cI ad fr (jq st 11 (Int32.toNatClampNeg x2) x2)) (mP_11) ?_
            refine jr_iinc (q := 2) (v := (x2 + (1 : Int32))) (lv' := [(2, .int (x2 + (1 : Int32))), (0, .ref (ad 0)), (1, .int x1)]) C dMo_groups_47 rfl rfl (by decide) rfl ?_
            refine jr_goto (tgt := 32) C dMo_groups_50 (by decide) ?_
            refine jr_lv (lv' := [(0, .ref (ad 0)), (1, .int x1), (2, .int (x2 + (1 : Int32)))]) [1, 2, 0] rfl ?_
            exact ih (jq st 11 (Int32.toNatClampNeg x2) x2) x1 (x2 + (1 : Int32)) h
      obtain ⟨n47, h⟩ := h
      refine jr_lv (lv' := [(0, .ref (ad 0)), (1, .int l1), (2, .int (0 : Int32))]) [1, 2, 0] rfl ?_
      exact lp46 n47 (jq st1 0 0 v4) l1 (0 : Int32) h
    · have h := h.2 z
      refine jr_iconst (v := 0) C dMo_groups_28 (by decide) ?_
      exact jr_reti C hr hlocks dMo_groups_29 h rfl
  refine jr_if_ne (tgt := 17) C dMo_groups_10 (by decide) (fun z => ?_) (fun z => ?_)
  · have h := h.1 z
    refine jr_iconst (v := 0) C dMo_groups_17 (by decide) ?_
    refine jr_lv (lv' := [(0, .ref (ad 0)), (1, .int l1)]) [0, 1] rfl ?_
    exact hj3 (0 : Int32) h
  · have h := h.2 z
    refine jr_iconst (v := 1) C dMo_groups_13 (by decide) ?_
    refine jr_goto (tgt := 18) C dMo_groups_14 (by decide) ?_
    refine jr_lv (lv' := [(0, .ref (ad 0)), (1, .int l1)]) [0, 1] rfl ?_
    exact hj3 (1 : Int32) h
def wp_Mo_apart_5 (post : Int32 → jS → Prop) : Nat → jS → Int32 → Int32 → Int32 → Int32 → Prop
  | 0 => fun _ _ _ _ _ => False
  | n + 1 => fun st x1 x2 x3 x4 => (((st 0 2) ≤ x4 → post x3 st) ∧ (¬ (st 0 2) ≤ x4 → vp_in (((11 : Int32) * x1) + x4) 264 ∧ vp_in (((11 : Int32) * x2) + x4) 264 ∧ wp_Mo_apart_5 post n st x1 x2 (x3 + (((st 3 (Int32.toNatClampNeg (((11 : Int32) * x1) + x4))) - (st 3 (Int32.toNatClampNeg (((11 : Int32) * x2) + x4)))) * ((st 3 (Int32.toNatClampNeg (((11 : Int32) * x1) + x4))) - (st 3 (Int32.toNatClampNeg (((11 : Int32) * x2) + x4)))))) (x4 + (1 : Int32))))
def wp_Mo_apart (st : jS) (l1 : Int32) (l2 : Int32) (post : Int32 → jS → Prop) : Prop :=
  (∃ n5, wp_Mo_apart_5 post n5 st l1 l2 (0 : Int32) (0 : Int32))
set_option maxRecDepth 100000 in
set_option maxHeartbeats 4000000 in
theorem c_Mo_apart {st : jS} {l1 : Int32} {l2 : Int32} {post : Int32 → jS → Prop} (h : wp_Mo_apart st l1 l2 post) : jr_Mi l yMo_apart wMo_apart ({ frames := 0, cells := 0, slots := 0, locals := 0 }) [.ref (ad 0), .int l1, .int l2] D kC (kT cI cII cL cJ) (mW cI ad fr st) (mW cI ad fr) post := by
  refine jr_ofi (cc := bMo_apart) (nL := 6) (lv := [(0, .ref (ad 0)), (1, .int l1), (2, .int l2)]) (by decide) rfl (Nat.le_of_ble_eq_true rfl) rfl (fun p e s m args below meth c A C hr hlocks => ?_)
  unfold wp_Mo_apart at h
  refine jr_iconst (v := 0) C dMo_apart_0 (by decide) ?_
  refine jr_istore_n (lv' := [(3, .int (0 : Int32)), (0, .ref (ad 0)), (1, .int l1), (2, .int l2)]) C dMo_apart_1 rfl (by decide) rfl ?_
  refine jr_iconst (v := 0) C dMo_apart_2 (by decide) ?_
  refine jr_istore (lv' := [(4, .int (0 : Int32)), (3, .int (0 : Int32)), (0, .ref (ad 0)), (1, .int l1), (2, .int l2)]) C dMo_apart_3 (by decide) rfl ?_
  have lp3 : ∀ (n : Nat) (st : jS) (x1 : Int32) (x2 : Int32) (x3 : Int32) (x4 : Int32), wp_Mo_apart_5 post n st x1 x2 x3 x4 → jr_J p l e (headSpec wMo_apart ({ frames := 0, cells := 0, slots := 0, locals := 0 })).room s m args below meth c A D kC 6 0 0 (MQ below (va_Qi post (jr_B D kC (kT cI cII cL cJ) (mW cI ad fr) A) A) args s 0 0 A) (mW cI ad fr st) 5 [(0, .ref (ad 0)), (1, .int x1), (2, .int x2), (3, .int x3), (4, .int x4)] [] := by
    intro n
    induction n with
    | zero => intro st x1 x2 x3 x4 h; exact h.elim
    | succ n ih =>
      intro st x1 x2 x3 x4 h
      unfold wp_Mo_apart_5 at h
      refine jr_iload (q := 4) C dMo_apart_5 rfl ?_
      refine jr_aload_n (q := 0) C dMo_apart_7 rfl rfl ?_
      refine jr_getf (k := 2) C dMo_apart_8 inw_Mo (rfl : kC[5]? = _) (by decide) (List.mem_cons_of_mem _ tm3_131) rfl mA_0 rfl ?_
      refine jr_icmp_ge (tgt := 55) C dMo_apart_11 (by decide) (fun z => ?_) (fun z => ?_)
      · have h := h.1 z
        refine jr_iload_n (q := 3) C dMo_apart_55 rfl rfl ?_
        exact jr_reti C hr hlocks dMo_apart_56 h rfl
      · have h := h.2 z
        refine jr_aload_n (q := 0) C dMo_apart_14 rfl rfl ?_
        refine jr_getf (k := 6) C dMo_apart_15 inw_Mo (rfl : kC[5]? = _) (by decide) (List.mem_cons_of_mem _ tm3_135) rfl mA_0 rfl ?_
        refine jr_bipush (v := 11) C dMo_apart_18 (by decide) ?_
        refine jr_iload_n (q := 1) C dMo_apart_20 rfl rfl ?_
        refine jr_imul C dMo_apart_21 ?_
        refine jr_iload (q := 4) C dMo_apart_22 rfl ?_
        refine jr_iadd C dMo_apart_24 ?_
        obtain ⟨h1, h⟩ := h
        refine jr_iald (t0 := 0) C dMo_apart_25 mA_3 rfl h1 ?_
        refine jr_aload_n (q := 0) C dMo_apart_26 rfl rfl ?_
        refine jr_getf (k := 6) C dMo_apart_27 inw_Mo (rfl : kC[5]? = _) (by decide) (List.mem_cons_of_mem _ tm3_135) rfl mA_0 rfl ?_
        refine jr_bipush (v := 11) C dMo_apart_30 (by decide) ?_
        refine jr_iload_n (q := 2) C dMo_apart_32 rfl rfl ?_
        refine jr_imul C dMo_apart_33 ?_
        refine jr_iload (q := 4) C dMo_apart_34 rfl ?_
        refine jr_iadd C dMo_apart_36 ?_
        obtain ⟨h2, h⟩ := h
        refine jr_iald (t0 := 0) C dMo_apart_37 mA_3 rfl h2 ?_
        refine jr_isub C dMo_apart_38 ?_
        refine jr_istore (lv' := [(5, .int ((st 3 (Int32.toNatClampNeg (((11 : Int32) * x1) + x4))) - (st 3 (Int32.toNatClampNeg (((11 : Int32) * x2) + x4))))), (0, .ref (ad 0)), (1, .int x1), (2, .int x2), (3, .int x3), (4, .int x4)]) C dMo_apart_39 (by decide) rfl ?_
        refine jr_iload_n (q := 4) C dMo_apart_41 rfl rfl ?_
        refine jr_iload (q := 0) C dMo_apart_42 rfl ?_
        refine jr_iload (q := 0) C dMo_apart_44 rfl ?_
        refine jr_imul C dMo_apart_46 ?_
        refine jr_iadd C dMo_apart_47 ?_
        refine jr_istore_n (lv' := [(3, .int (x3 + (((st 3 (Int32.toNatClampNeg (((11 : Int32) * x1) + x4))) - (st 3 (Int32.toNatClampNeg (((11 : Int32) * x2) + x4)))) * ((st 3 (Int32.toNatClampNeg (((11 : Int32) * x1) + x4))) - (st 3 (Int32.toNatClampNeg (((11 : Int32) * x2) + x4))))))), (5, .int ((st 3 (Int32.toNatClampNeg (((11 : Int32) * x1) + x4))) - (st 3 (Int32.toNatClampNeg (((11 : Int32) * x2) + x4))))), (0, .ref (ad 0)), (1, .int x1), (2, .int x2), (4, .int x4)]) C dMo_apart_48 rfl (by decide) rfl ?_
        refine jr_iinc (q := 5) (v := (x4 + (1 : Int32))) (lv' := [(4, .int (x4 + (1 : Int32))), (3, .int (x3 + (((st 3 (Int32.toNatClampNeg (((11 : Int32) * x1) + x4))) - (st 3 (Int32.toNatClampNeg (((11 : Int32) * x2) + x4)))) * ((st 3 (Int32.toNatClampNeg (((11 : Int32) * x1) + x4))) - (st 3 (Int32.toNatClampNeg (((11 : Int32) * x2) + x4))))))), (5, .int ((st 3 (Int32.toNatClampNeg (((11 : Int32) * x1) + x4))) - (st 3 (Int32.toNatClampNeg (((11 : Int32) * x2) + x4))))), (0, .ref (ad 0)), (1, .int x1), (2, .int x2)]) C dMo_apart_49 rfl rfl (by decide) rfl ?_
        refine jr_goto (tgt := 5) C dMo_apart_52 (by decide) ?_
        refine jr_lv (lv' := [(0, .ref (ad 0)), (1, .int x1), (2, .int x2), (3, .int (x3 + (((st 3 (Int32.toNatClampNeg (((11 : Int32) * x1) + x4))) - (st 3 (Int32.toNatClampNeg (((11 : Int32) * x2) + x4)))) * ((st 3 (Int32.toNatClampNeg (((11 : Int32) * x1) + x4))) - (st 3 (Int32.toNatClampNeg (((11 : Int32) * x2) + x4))))))), (4, .int (x4 + (1 : Int32)))]) [3, 4, 5, 1, 0] rfl ?_
        exact ih st x1 x2 (x3 + (((st 3 (Int32.toNatClampNeg (((11 : Int32) * x1) + x4))) - (st 3 (Int32.toNatClampNeg (((11 : Int32) * x2) + x4)))) * ((st 3 (Int32.toNatClampNeg (((11 : Int32) * x1) + x4))) - (st 3 (Int32.toNatClampNeg (((11 : Int32) * x2) + x4)))))) (x4 + (1 : Int32)) h
  obtain ⟨n4, h⟩ := h
  refine jr_lv (lv' := [(0, .ref (ad 0)), (1, .int l1), (2, .int l2), (3, .int (0 : Int32)), (4, .int (0 : Int32))]) [2, 3, 4, 1, 0] rfl ?_
  exact lp3 n4 st l1 l2 (0 : Int32) (0 : Int32) h
end MO
