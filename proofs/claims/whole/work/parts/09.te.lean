section KT
variable {l : Launch} {D : va_G} {cI cII cL cJ : ClassId} {ad sa : Nat → Nat} {K F : Nat} {fr : va_W}
def wp_Te_placeOf_2 (K F : Nat) (post : Int32 → jS → Prop) : Nat → jS → Int32 → Int32 → Prop
  | 0 => fun _ _ _ => False
  | n + 1 => fun st x1 x2 => ((((st 2 1) - (1 : Int32)) ≤ x2 → post x2 st) ∧ (¬ ((st 2 1) - (1 : Int32)) ≤ x2 → vp_in x2 K ∧ (((st 9 (Int32.toNatClampNeg x2)) = x1 → post x2 st) ∧ (¬ (st 9 (Int32.toNatClampNeg x2)) = x1 → wp_Te_placeOf_2 K F post n st x1 (x2 + (1 : Int32))))))
def wp_Te_placeOf (K F : Nat) (st : jS) (l1 : Int32) (post : Int32 → jS → Prop) : Prop :=
  (∃ n4, wp_Te_placeOf_2 K F post n4 st l1 (0 : Int32))
set_option maxRecDepth 100000 in
set_option maxHeartbeats 4000000 in
theorem c_Te_placeOf {st : jS} {l1 : Int32} {post : Int32 → jS → Prop} (h : wp_Te_placeOf K F st l1 post) : jr_Mi l yTe_placeOf wTe_placeOf ({ frames := 0, cells := 0, slots := 0, locals := 0 }) [.ref (ad 2), .int l1] D kC (kT cI cII cL cJ) (kW cI cII cL ad K F fr st) (kW cI cII cL ad K F fr) post := by
  refine jr_ofi (cc := bTe_placeOf) (nL := 3) (lv := [(0, .ref (ad 2)), (1, .int l1)]) (by decide) rfl (Nat.le_of_ble_eq_true rfl) rfl (fun p e s m args below meth c A C hr hlocks => ?_)
  unfold wp_Te_placeOf at h
  refine jr_iconst (v := 0) C dTe_placeOf_0 (by decide) ?_
  refine jr_istore_n (lv' := [(2, .int (0 : Int32)), (0, .ref (ad 2)), (1, .int l1)]) C dTe_placeOf_1 rfl (by decide) rfl ?_
  have lp2 : ∀ (n : Nat) (st : jS) (x1 : Int32) (x2 : Int32), wp_Te_placeOf_2 K F post n st x1 x2 → jr_J p l e (headSpec wTe_placeOf ({ frames := 0, cells := 0, slots := 0, locals := 0 })).room s m args below meth c A D kC 3 0 0 (MQ below (va_Qi post (jr_B D kC (kT cI cII cL cJ) (kW cI cII cL ad K F fr) A) A) args s 0 0 A) (kW cI cII cL ad K F fr st) 2 [(0, .ref (ad 2)), (1, .int x1), (2, .int x2)] [] := by
    intro n
    induction n with
    | zero => intro st x1 x2 h; exact h.elim
    | succ n ih =>
      intro st x1 x2 h
      unfold wp_Te_placeOf_2 at h
      refine jr_iload_n (q := 2) C dTe_placeOf_2 rfl rfl ?_
      refine jr_aload_n (q := 0) C dTe_placeOf_3 rfl rfl ?_
      refine jr_getf (k := 1) C dTe_placeOf_4 inw_Te (rfl : kC[2]? = _) (by decide) (List.mem_cons_of_mem _ tm1_70) rfl kA_2 rfl ?_
      refine jr_iconst (v := 1) C dTe_placeOf_7 (by decide) ?_
      refine jr_isub C dTe_placeOf_8 ?_
      refine jr_icmp_ge (tgt := 28) C dTe_placeOf_9 (by decide) (fun z => ?_) (fun z => ?_)
      · have h := h.1 z
        refine jr_iload_n (q := 2) C dTe_placeOf_28 rfl rfl ?_
        exact jr_reti C hr hlocks dTe_placeOf_29 h rfl
      · have h := h.2 z
        refine jr_aload_n (q := 0) C dTe_placeOf_12 rfl rfl ?_
        refine jr_getf (k := 2) C dTe_placeOf_13 inw_Te (rfl : kC[2]? = _) (by decide) (List.mem_cons_of_mem _ tm1_71) rfl kA_2 rfl ?_
        refine jr_iload_n (q := 2) C dTe_placeOf_16 rfl rfl ?_
        obtain ⟨h1, h⟩ := h
        refine jr_iald (t0 := 0) C dTe_placeOf_17 kA_9 rfl h1 ?_
        refine jr_iload_n (q := 1) C dTe_placeOf_18 rfl rfl ?_
        refine jr_icmp_eq (tgt := 28) C dTe_placeOf_19 (by decide) (fun z => ?_) (fun z => ?_)
        · have h := h.1 z
          refine jr_iload_n (q := 2) C dTe_placeOf_28 rfl rfl ?_
          exact jr_reti C hr hlocks dTe_placeOf_29 h rfl
        · have h := h.2 z
          refine jr_iinc (q := 2) (v := (x2 + (1 : Int32))) (lv' := [(2, .int (x2 + (1 : Int32))), (0, .ref (ad 2)), (1, .int x1)]) C dTe_placeOf_22 rfl rfl (by decide) rfl ?_
          refine jr_goto (tgt := 2) C dTe_placeOf_25 (by decide) ?_
          refine jr_lv (lv' := [(0, .ref (ad 2)), (1, .int x1), (2, .int (x2 + (1 : Int32)))]) [1, 2, 0] rfl ?_
          exact ih st x1 (x2 + (1 : Int32)) h
  obtain ⟨n3, h⟩ := h
  refine jr_lv (lv' := [(0, .ref (ad 2)), (1, .int l1), (2, .int (0 : Int32))]) [1, 2, 0] rfl ?_
  exact lp2 n3 st l1 (0 : Int32) h
def wp_Te_bringToFront_8 (K F : Nat) (post : Int32 → jS → Prop) : Nat → jS → Int32 → Int32 → Int32 → Prop
  | 0 => fun _ _ _ _ => False
  | n + 1 => fun st x1 x2 x3 => ((x3 ≤ 0 → vp_in (0 : Int32) K ∧ post x2 (jq st 9 (Int32.toNatClampNeg (0 : Int32)) x1)) ∧ (¬ x3 ≤ 0 → vp_in (x3 - (1 : Int32)) K ∧ vp_in x3 K ∧ wp_Te_bringToFront_8 K F post n (jq st 9 (Int32.toNatClampNeg x3) (st 9 (Int32.toNatClampNeg (x3 - (1 : Int32))))) x1 x2 (x3 + (-1 : Int32))))
def wp_Te_bringToFront (K F : Nat) (st : jS) (l1 : Int32) (post : Int32 → jS → Prop) : Prop :=
  wp_Te_placeOf K F st l1 (fun r2 st1 => (∃ n8, wp_Te_bringToFront_8 K F post n8 st1 l1 r2 r2))
set_option maxRecDepth 100000 in
set_option maxHeartbeats 4000000 in
theorem c_Te_bringToFront {st : jS} {l1 : Int32} {post : Int32 → jS → Prop} (h : wp_Te_bringToFront K F st l1 post) : jr_Mi l yTe_bringToFront wTe_bringToFront ({ frames := 1, cells := 0, slots := 0, locals := 22 }) [.ref (ad 2), .int l1] D kC (kT cI cII cL cJ) (kW cI cII cL ad K F fr st) (kW cI cII cL ad K F fr) post := by
  refine jr_ofi (cc := bTe_bringToFront) (nL := 4) (lv := [(0, .ref (ad 2)), (1, .int l1)]) (by decide) rfl (Nat.le_of_ble_eq_true rfl) rfl (fun p e s m args below meth c A C hr hlocks => ?_)
  unfold wp_Te_bringToFront at h
  refine jr_aload_n (q := 0) C dTe_bringToFront_0 rfl rfl ?_
  refine jr_iload_n (q := 1) C dTe_bringToFront_1 rfl rfl ?_
  refine jr_callVi (As := [.int l1]) (rest := []) C (c_Te_placeOf h) (cwV 1 C.2.2.2.2.1 (tg_V tm2_151 tm2_153 tp_7 tm1_4 tm2_154) rfl rfl rfl ⟨rfl, by decide, by decide, by decide⟩ ⟨Nat.le_of_ble_eq_true rfl, Nat.le_of_ble_eq_true rfl⟩) dTe_bringToFront_2 (rfl : kC[2]? = _) kA_2 rfl rfl (Nat.le_of_ble_eq_true rfl) ⟨Nat.le_of_ble_eq_true rfl, Nat.le_of_ble_eq_true rfl⟩ (fun r2 st1 h => ?_)
  refine jr_istore_n (lv' := [(2, .int r2), (0, .ref (ad 2)), (1, .int l1)]) C dTe_bringToFront_5 rfl (by decide) rfl ?_
  refine jr_iload_n (q := 0) C dTe_bringToFront_6 rfl rfl ?_
  refine jr_istore_n (lv' := [(3, .int r2), (2, .int r2), (0, .ref (ad 2)), (1, .int l1)]) C dTe_bringToFront_7 rfl (by decide) rfl ?_
  have lp6 : ∀ (n : Nat) (st : jS) (x1 : Int32) (x2 : Int32) (x3 : Int32), wp_Te_bringToFront_8 K F post n st x1 x2 x3 → jr_J p l e (headSpec wTe_bringToFront ({ frames := 1, cells := 0, slots := 0, locals := 22 })).room s m args below meth c A D kC 4 0 0 (MQ below (va_Qi post (jr_B D kC (kT cI cII cL cJ) (kW cI cII cL ad K F fr) A) A) args s 0 0 A) (kW cI cII cL ad K F fr st) 8 [(0, .ref (ad 2)), (1, .int x1), (2, .int x2), (3, .int x3)] [] := by
    intro n
    induction n with
    | zero => intro st x1 x2 x3 h; exact h.elim
    | succ n ih =>
      intro st x1 x2 x3 h
      unfold wp_Te_bringToFront_8 at h
      refine jr_iload_n (q := 3) C dTe_bringToFront_8 rfl rfl ?_
      refine jr_if_le (tgt := 32) C dTe_bringToFront_9 (by decide) (fun z => ?_) (fun z => ?_)
      · have h := h.1 z
        refine jr_aload_n (q := 0) C dTe_bringToFront_32 rfl rfl ?_
        refine jr_getf (k := 2) C dTe_bringToFront_33 inw_Te (rfl : kC[2]? = _) (by decide) (List.mem_cons_of_mem _ tm1_71) rfl kA_2 rfl ?_
        refine jr_iconst (v := 0) C dTe_bringToFront_36 (by decide) ?_
        refine jr_iload_n (q := 1) C dTe_bringToFront_37 rfl rfl ?_
        obtain ⟨h3, h⟩ := h
        refine jr_iast (t0 := 0) C dTe_bringToFront_38 kA_9 rfl h3 ?_
        refine jr_ws (ws' := kW cI cII cL ad K F fr (jq st 9 (Int32.toNatClampNeg (0 : Int32)) x1)) (kP_9) ?_
        refine jr_iload_n (q := 2) C dTe_bringToFront_39 rfl rfl ?_
        exact jr_reti C hr hlocks dTe_bringToFront_40 h rfl
      · have h := h.2 z
        refine jr_aload_n (q := 0) C dTe_bringToFront_12 rfl rfl ?_
        refine jr_getf (k := 2) C dTe_bringToFront_13 inw_Te (rfl : kC[2]? = _) (by decide) (List.mem_cons_of_mem _ tm1_71) rfl kA_2 rfl ?_
        refine jr_iload_n (q := 3) C dTe_bringToFront_16 rfl rfl ?_
        refine jr_aload_n (q := 0) C dTe_bringToFront_17 rfl rfl ?_
        refine jr_getf (k := 2) C dTe_bringToFront_18 inw_Te (rfl : kC[2]? = _) (by decide) (List.mem_cons_of_mem _ tm1_71) rfl kA_2 rfl ?_
        refine jr_iload_n (q := 3) C dTe_bringToFront_21 rfl rfl ?_
        refine jr_iconst (v := 1) C dTe_bringToFront_22 (by decide) ?_
        refine jr_isub C dTe_bringToFront_23 ?_
        obtain ⟨h4, h⟩ := h
        refine jr_iald (t0 := 0) C dTe_bringToFront_24 kA_9 rfl h4 ?_
        obtain ⟨h5, h⟩ := h
        refine jr_iast (t0 := 0) C dTe_bringToFront_25 kA_9 rfl h5 ?_
        refine jr_ws (ws' := kW cI cII cL ad K F fr (jq st 9 (Int32.toNatClampNeg x3) (st 9 (Int32.toNatClampNeg (x3 - (1 : Int32)))))) (kP_9) ?_
        refine jr_iinc (q := 3) (v := (x3 + (-1 : Int32))) (lv' := [(3, .int (x3 + (-1 : Int32))), (0, .ref (ad 2)), (1, .int x1), (2, .int x2)]) C dTe_bringToFront_26 rfl rfl (by decide) rfl ?_
        refine jr_goto (tgt := 8) C dTe_bringToFront_29 (by decide) ?_
        refine jr_lv (lv' := [(0, .ref (ad 2)), (1, .int x1), (2, .int x2), (3, .int (x3 + (-1 : Int32)))]) [1, 2, 3, 0] rfl ?_
        exact ih (jq st 9 (Int32.toNatClampNeg x3) (st 9 (Int32.toNatClampNeg (x3 - (1 : Int32))))) x1 x2 (x3 + (-1 : Int32)) h
  obtain ⟨n7, h⟩ := h
  refine jr_lv (lv' := [(0, .ref (ad 2)), (1, .int l1), (2, .int r2), (3, .int r2)]) [2, 3, 1, 0] rfl ?_
  exact lp6 n7 st1 l1 r2 r2 h
def wp_Te_takeVotes_29 (K F : Nat) (post : jS → Prop) : Nat → jS → Int32 → Int32 → Int32 → Int32 → Prop
  | 0 => fun _ _ _ _ _ => False
  | n + 1 => fun st x1 x2 x3 x4 => (((st 1 5) ≤ x4 → post st) ∧ (¬ (st 1 5) ≤ x4 → vp_in x4 24 ∧ ((x4 = x1 → wp_Te_takeVotes_29 K F post n st x1 x2 x3 (x4 + (1 : Int32))) ∧ (¬ x4 = x1 → (((st 6 (Int32.toNatClampNeg x4)) = (-1 : Int32) → wp_Te_takeVotes_29 K F post n st x1 x2 x3 (x4 + (1 : Int32))) ∧ (¬ (st 6 (Int32.toNatClampNeg x4)) = (-1 : Int32) → vp_in (st 6 (Int32.toNatClampNeg x4)) K ∧ wp_Ex_sameCells K F st x1 x4 x2 x3 (fun r4 st3 => vp_in (st 6 (Int32.toNatClampNeg x4)) K ∧ wp_Te_takeVotes_29 K F post n (jq st3 10 (Int32.toNatClampNeg (st 6 (Int32.toNatClampNeg x4))) ((st 10 (Int32.toNatClampNeg (st 6 (Int32.toNatClampNeg x4)))) + r4)) x1 x2 x3 (x4 + (1 : Int32)))))))))
def wp_Te_takeVotes_3 (K F : Nat) (post : jS → Prop) : Nat → jS → Int32 → Int32 → Int32 → Int32 → Prop
  | 0 => fun _ _ _ _ _ => False
  | n + 1 => fun st x1 x2 x3 x4 => (((st 2 1) ≤ x4 → (∃ n8, wp_Te_takeVotes_29 K F post n8 st x1 x2 x3 (0 : Int32))) ∧ (¬ (st 2 1) ≤ x4 → vp_in x4 K ∧ wp_Te_takeVotes_3 K F post n (jq st 10 (Int32.toNatClampNeg x4) (0 : Int32)) x1 x2 x3 (x4 + (1 : Int32))))
def wp_Te_takeVotes (K F : Nat) (st : jS) (l1 : Int32) (l2 : Int32) (l3 : Int32) (post : jS → Prop) : Prop :=
  (∃ n12, wp_Te_takeVotes_3 K F post n12 st l1 l2 l3 (0 : Int32))
set_option maxRecDepth 100000 in
set_option maxHeartbeats 4000000 in
theorem c_Te_takeVotes {st : jS} {l1 : Int32} {l2 : Int32} {l3 : Int32} {post : jS → Prop} (h : wp_Te_takeVotes K F st l1 l2 l3 post) : jr_Mv l yTe_takeVotes wTe_takeVotes ({ frames := 2, cells := 0, slots := 0, locals := 49 }) [.ref (ad 2), .int l1, .int l2, .int l3] D kC (kT cI cII cL cJ) (kW cI cII cL ad K F fr st) (kW cI cII cL ad K F fr) post := by
  refine jr_ofv (cc := bTe_takeVotes) (nL := 6) (lv := [(0, .ref (ad 2)), (1, .int l1), (2, .int l2), (3, .int l3)]) (by decide) rfl (Nat.le_of_ble_eq_true rfl) rfl (fun p e s m args below meth c A C hr hlocks => ?_)
  unfold wp_Te_takeVotes at h
  refine jr_iconst (v := 0) C dTe_takeVotes_0 (by decide) ?_
  refine jr_istore (lv' := [(4, .int (0 : Int32)), (0, .ref (ad 2)), (1, .int l1), (2, .int l2), (3, .int l3)]) C dTe_takeVotes_1 (by decide) rfl ?_
  have lp10 : ∀ (n : Nat) (st : jS) (x1 : Int32) (x2 : Int32) (x3 : Int32) (x4 : Int32), wp_Te_takeVotes_3 K F post n st x1 x2 x3 x4 → jr_J p l e (headSpec wTe_takeVotes ({ frames := 2, cells := 0, slots := 0, locals := 49 })).room s m args below meth c A D kC 6 0 0 (MQ below (va_Qv post (jr_B D kC (kT cI cII cL cJ) (kW cI cII cL ad K F fr) A) A) args s 0 0 A) (kW cI cII cL ad K F fr st) 3 [(0, .ref (ad 2)), (1, .int x1), (2, .int x2), (3, .int x3), (4, .int x4)] [] := by
    intro n
    induction n with
    | zero => intro st x1 x2 x3 x4 h; exact h.elim
    | succ n ih =>
      intro st x1 x2 x3 x4 h
      unfold wp_Te_takeVotes_3 at h
      refine jr_iload (q := 4) C dTe_takeVotes_3 rfl ?_
      refine jr_aload_n (q := 0) C dTe_takeVotes_5 rfl rfl ?_
      refine jr_getf (k := 1) C dTe_takeVotes_6 inw_Te (rfl : kC[2]? = _) (by decide) (List.mem_cons_of_mem _ tm1_70) rfl kA_2 rfl ?_
      refine jr_icmp_ge (tgt := 26) C dTe_takeVotes_9 (by decide) (fun z => ?_) (fun z => ?_)
      · have h := h.1 z
        refine jr_iconst (v := 0) C dTe_takeVotes_26 (by decide) ?_
        refine jr_istore (lv' := [(4, .int (0 : Int32)), (0, .ref (ad 2)), (1, .int x1), (2, .int x2), (3, .int x3)]) C dTe_takeVotes_27 (by decide) rfl ?_
        have lp6 : ∀ (n : Nat) (st : jS) (x1 : Int32) (x2 : Int32) (x3 : Int32) (x4 : Int32), wp_Te_takeVotes_29 K F post n st x1 x2 x3 x4 → jr_J p l e (headSpec wTe_takeVotes ({ frames := 2, cells := 0, slots := 0, locals := 49 })).room s m args below meth c A D kC 6 0 0 (MQ below (va_Qv post (jr_B D kC (kT cI cII cL cJ) (kW cI cII cL ad K F fr) A) A) args s 0 0 A) (kW cI cII cL ad K F fr st) 29 [(0, .ref (ad 2)), (1, .int x1), (2, .int x2), (3, .int x3), (4, .int x4)] [] := by
          intro n
          induction n with
          | zero => intro st x1 x2 x3 x4 h; exact h.elim
          | succ n ih =>
            intro st x1 x2 x3 x4 h
            unfold wp_Te_takeVotes_29 at h
            refine jr_iload (q := 4) C dTe_takeVotes_29 rfl ?_
            refine jr_aload_n (q := 0) C dTe_takeVotes_31 rfl rfl ?_
            refine jr_getf (k := 0) C dTe_takeVotes_32 inw_Te (rfl : kC[2]? = _) (by decide) (List.mem_cons_of_mem _ tm1_69) rfl kA_2 rfl ?_
            refine jr_getf (k := 5) C dTe_takeVotes_35 inw_Ex (rfl : kC[1]? = _) (by decide) (List.mem_cons_of_mem _ tm1_48) rfl kA_1 rfl ?_
            refine jr_icmp_ge (tgt := 93) C dTe_takeVotes_38 (by decide) (fun z => ?_) (fun z => ?_)
            · have h := h.1 z
              exact jr_retv C hr hlocks dTe_takeVotes_93 h rfl
            · have h := h.2 z
              refine jr_aload_n (q := 0) C dTe_takeVotes_41 rfl rfl ?_
              refine jr_getf (k := 0) C dTe_takeVotes_42 inw_Te (rfl : kC[2]? = _) (by decide) (List.mem_cons_of_mem _ tm1_69) rfl kA_2 rfl ?_
              refine jr_getf (k := 2) C dTe_takeVotes_45 inw_Ex (rfl : kC[1]? = _) (by decide) (List.mem_cons_of_mem _ tm1_42) rfl kA_1 rfl ?_
              refine jr_iload (q := 4) C dTe_takeVotes_48 rfl ?_
              obtain ⟨h1, h⟩ := h
              refine jr_iald (t0 := 0) C dTe_takeVotes_50 kA_6 rfl h1 ?_
              refine jr_istore (lv' := [(5, .int (st 6 (Int32.toNatClampNeg x4))), (0, .ref (ad 2)), (1, .int x1), (2, .int x2), (3, .int x3), (4, .int x4)]) C dTe_takeVotes_51 (by decide) rfl ?_
              refine jr_iload (q := 5) C dTe_takeVotes_53 rfl ?_
              refine jr_iload_n (q := 2) C dTe_takeVotes_55 rfl rfl ?_
              refine jr_icmp_eq (tgt := 87) C dTe_takeVotes_56 (by decide) (fun z => ?_) (fun z => ?_)
              · have h := h.1 z
                refine jr_iinc (q := 5) (v := (x4 + (1 : Int32))) (lv' := [(4, .int (x4 + (1 : Int32))), (5, .int (st 6 (Int32.toNatClampNeg x4))), (0, .ref (ad 2)), (1, .int x1), (2, .int x2), (3, .int x3)]) C dTe_takeVotes_87 rfl rfl (by decide) rfl ?_
                refine jr_goto (tgt := 29) C dTe_takeVotes_90 (by decide) ?_
                refine jr_lv (lv' := [(0, .ref (ad 2)), (1, .int x1), (2, .int x2), (3, .int x3), (4, .int (x4 + (1 : Int32)))]) [2, 3, 4, 5, 0] rfl ?_
                exact ih st x1 x2 x3 (x4 + (1 : Int32)) h
              · have h := h.2 z
                refine jr_iload (q := 0) C dTe_takeVotes_59 rfl ?_
                refine jr_iconst (v := -1) C dTe_takeVotes_61 (by decide) ?_
                refine jr_icmp_eq (tgt := 87) C dTe_takeVotes_62 (by decide) (fun z => ?_) (fun z => ?_)
                · have h := h.1 z
                  refine jr_iinc (q := 5) (v := (x4 + (1 : Int32))) (lv' := [(4, .int (x4 + (1 : Int32))), (5, .int (st 6 (Int32.toNatClampNeg x4))), (0, .ref (ad 2)), (1, .int x1), (2, .int x2), (3, .int x3)]) C dTe_takeVotes_87 rfl rfl (by decide) rfl ?_
                  refine jr_goto (tgt := 29) C dTe_takeVotes_90 (by decide) ?_
                  refine jr_lv (lv' := [(0, .ref (ad 2)), (1, .int x1), (2, .int x2), (3, .int x3), (4, .int (x4 + (1 : Int32)))]) [2, 3, 4, 5, 0] rfl ?_
                  exact ih st x1 x2 x3 (x4 + (1 : Int32)) h
                · have h := h.2 z
                  refine jr_aload_n (q := 1) C dTe_takeVotes_65 rfl rfl ?_
                  refine jr_getf (k := 3) C dTe_takeVotes_66 inw_Te (rfl : kC[2]? = _) (by decide) (List.mem_cons_of_mem _ tm1_72) rfl kA_2 rfl ?_
                  refine jr_iload (q := 0) C dTe_takeVotes_69 rfl ?_
                  refine jr_dup2_11 C dTe_takeVotes_71 rfl rfl ?_
                  obtain ⟨h2, h⟩ := h
                  refine jr_iald (t0 := 0) C dTe_takeVotes_72 kA_10 rfl h2 ?_
                  refine jr_aload_n (q := 1) C dTe_takeVotes_73 rfl rfl ?_
                  refine jr_getf (k := 0) C dTe_takeVotes_74 inw_Te (rfl : kC[2]? = _) (by decide) (List.mem_cons_of_mem _ tm1_69) rfl kA_2 rfl ?_
                  refine jr_iload_n (q := 2) C dTe_takeVotes_77 rfl rfl ?_
                  refine jr_iload (q := 5) C dTe_takeVotes_78 rfl ?_
                  refine jr_iload_n (q := 3) C dTe_takeVotes_80 rfl rfl ?_
                  refine jr_iload_n (q := 4) C dTe_takeVotes_81 rfl rfl ?_
                  refine jr_callVi (As := [.int x1, .int x4, .int x2, .int x3]) (rest := [.int (st 10 (Int32.toNatClampNeg (st 6 (Int32.toNatClampNeg x4)))), .int (st 6 (Int32.toNatClampNeg x4)), .ref (ad 10)]) C (c_Ex_sameCells h) (cwV 4 C.2.2.2.2.1 (tg_V tm1_171 tm1_172 tm1_173 tm1_3 tm1_174) rfl rfl rfl ⟨rfl, by decide, by decide, by decide⟩ ⟨Nat.le_of_ble_eq_true rfl, Nat.le_of_ble_eq_true rfl⟩) dTe_takeVotes_82 (rfl : kC[1]? = _) kA_1 rfl rfl (Nat.le_of_ble_eq_true rfl) ⟨Nat.le_of_ble_eq_true rfl, Nat.le_of_ble_eq_true rfl⟩ (fun r4 st3 h => ?_)
                  refine jr_iadd C dTe_takeVotes_85 ?_
                  obtain ⟨h5, h⟩ := h
                  refine jr_iast (t0 := 0) C dTe_takeVotes_86 kA_10 rfl h5 ?_
                  refine jr_ws (ws' := kW cI cII cL ad K F fr (jq st3 10 (Int32.toNatClampNeg (st 6 (Int32.toNatClampNeg x4))) ((st 10 (Int32.toNatClampNeg (st 6 (Int32.toNatClampNeg x4)))) + r4))) (kP_10) ?_
                  refine jr_iinc (q := 5) (v := (x4 + (1 : Int32))) (lv' := [(4, .int (x4 + (1 : Int32))), (5, .int (st 6 (Int32.toNatClampNeg x4))), (0, .ref (ad 2)), (1, .int x1), (2, .int x2), (3, .int x3)]) C dTe_takeVotes_87 rfl rfl (by decide) rfl ?_
                  refine jr_goto (tgt := 29) C dTe_takeVotes_90 (by decide) ?_
                  refine jr_lv (lv' := [(0, .ref (ad 2)), (1, .int x1), (2, .int x2), (3, .int x3), (4, .int (x4 + (1 : Int32)))]) [2, 3, 4, 5, 0] rfl ?_
                  exact ih (jq st3 10 (Int32.toNatClampNeg (st 6 (Int32.toNatClampNeg x4))) ((st 10 (Int32.toNatClampNeg (st 6 (Int32.toNatClampNeg x4)))) + r4)) x1 x2 x3 (x4 + (1 : Int32)) h
        obtain ⟨n7, h⟩ := h
        refine jr_lv (lv' := [(0, .ref (ad 2)), (1, .int x1), (2, .int x2), (3, .int x3), (4, .int (0 : Int32))]) [1, 2, 3, 4, 0] rfl ?_
        exact lp6 n7 st x1 x2 x3 (0 : Int32) h
      · have h := h.2 z
        refine jr_aload_n (q := 0) C dTe_takeVotes_12 rfl rfl ?_
        refine jr_getf (k := 3) C dTe_takeVotes_13 inw_Te (rfl : kC[2]? = _) (by decide) (List.mem_cons_of_mem _ tm1_72) rfl kA_2 rfl ?_
        refine jr_iload (q := 4) C dTe_takeVotes_16 rfl ?_
        refine jr_iconst (v := 0) C dTe_takeVotes_18 (by decide) ?_
        obtain ⟨h9, h⟩ := h
        refine jr_iast (t0 := 0) C dTe_takeVotes_19 kA_10 rfl h9 ?_
        refine jr_ws (ws' := kW cI cII cL ad K F fr (jq st 10 (Int32.toNatClampNeg x4) (0 : Int32))) (kP_10) ?_
        refine jr_iinc (q := 4) (v := (x4 + (1 : Int32))) (lv' := [(4, .int (x4 + (1 : Int32))), (0, .ref (ad 2)), (1, .int x1), (2, .int x2), (3, .int x3)]) C dTe_takeVotes_20 rfl rfl (by decide) rfl ?_
        refine jr_goto (tgt := 3) C dTe_takeVotes_23 (by decide) ?_
        refine jr_lv (lv' := [(0, .ref (ad 2)), (1, .int x1), (2, .int x2), (3, .int x3), (4, .int (x4 + (1 : Int32)))]) [1, 2, 3, 4, 0] rfl ?_
        exact ih (jq st 10 (Int32.toNatClampNeg x4) (0 : Int32)) x1 x2 x3 (x4 + (1 : Int32)) h
  obtain ⟨n11, h⟩ := h
  refine jr_lv (lv' := [(0, .ref (ad 2)), (1, .int l1), (2, .int l2), (3, .int l3), (4, .int (0 : Int32))]) [1, 2, 3, 4, 0] rfl ?_
  exact lp10 n11 st l1 l2 l3 (0 : Int32) h
def wp_Te_votesFor (K F : Nat) (st : jS) (l1 : Int32) (l2 : Int32) (post : Int32 → jS → Prop) : Prop :=
  wp_Te_takeVotes K F st l1 (0 : Int32) (st 1 0) (fun st1 => vp_in l2 K ∧ post (st1 10 (Int32.toNatClampNeg l2)) st1)
set_option maxRecDepth 100000 in
set_option maxHeartbeats 4000000 in
theorem c_Te_votesFor {st : jS} {l1 : Int32} {l2 : Int32} {post : Int32 → jS → Prop} (h : wp_Te_votesFor K F st l1 l2 post) : jr_Mi l yTe_votesFor wTe_votesFor ({ frames := 3, cells := 0, slots := 0, locals := 74 }) [.ref (ad 2), .int l1, .int l2] D kC (kT cI cII cL cJ) (kW cI cII cL ad K F fr st) (kW cI cII cL ad K F fr) post := by
  refine jr_ofi (cc := bTe_votesFor) (nL := 3) (lv := [(0, .ref (ad 2)), (1, .int l1), (2, .int l2)]) (by decide) rfl (Nat.le_of_ble_eq_true rfl) rfl (fun p e s m args below meth c A C hr hlocks => ?_)
  unfold wp_Te_votesFor at h
  refine jr_aload_n (q := 0) C dTe_votesFor_0 rfl rfl ?_
  refine jr_iload_n (q := 1) C dTe_votesFor_1 rfl rfl ?_
  refine jr_iconst (v := 0) C dTe_votesFor_2 (by decide) ?_
  refine jr_aload_n (q := 0) C dTe_votesFor_3 rfl rfl ?_
  refine jr_getf (k := 0) C dTe_votesFor_4 inw_Te (rfl : kC[2]? = _) (by decide) (List.mem_cons_of_mem _ tm1_69) rfl kA_2 rfl ?_
  refine jr_getf (k := 0) C dTe_votesFor_7 inw_Ex (rfl : kC[1]? = _) (by decide) (List.mem_cons_of_mem _ tm1_37) rfl kA_1 rfl ?_
  refine jr_callVv (As := [.int l1, .int (0 : Int32), .int (st 1 0)]) (rest := []) C (c_Te_takeVotes h) (cwV 3 C.2.2.2.2.1 (tg_V tm1_167 tm1_169 tp_1 tm1_4 tm1_170) rfl rfl rfl ⟨rfl, by decide, by decide, by decide⟩ ⟨Nat.le_of_ble_eq_true rfl, Nat.le_of_ble_eq_true rfl⟩) dTe_votesFor_10 (rfl : kC[2]? = _) kA_2 rfl rfl (Nat.le_of_ble_eq_true rfl) ⟨Nat.le_of_ble_eq_true rfl, Nat.le_of_ble_eq_true rfl⟩ (fun st1 h => ?_)
  refine jr_aload_n (q := 0) C dTe_votesFor_13 rfl rfl ?_
  refine jr_getf (k := 3) C dTe_votesFor_14 inw_Te (rfl : kC[2]? = _) (by decide) (List.mem_cons_of_mem _ tm1_72) rfl kA_2 rfl ?_
  refine jr_iload_n (q := 2) C dTe_votesFor_17 rfl rfl ?_
  obtain ⟨h3, h⟩ := h
  refine jr_iald (t0 := 0) C dTe_votesFor_18 kA_10 rfl h3 ?_
  exact jr_reti C hr hlocks dTe_votesFor_19 h rfl
def wp_Te_toldBy_18 (K F : Nat) (post : Int32 → jS → Prop) : Nat → jS → Int32 → Int32 → Int32 → Int32 → Int32 → Prop
  | 0 => fun _ _ _ _ _ _ => False
  | n + 1 => fun st x1 x2 x3 x4 x5 => (((st 2 1) ≤ x5 → vp_in x4 K ∧ (((st 2 5) ≤ (st 10 (Int32.toNatClampNeg x4)) → post x4 st) ∧ (¬ (st 2 5) ≤ (st 10 (Int32.toNatClampNeg x4)) → post (-1 : Int32) st))) ∧ (¬ (st 2 1) ≤ x5 → vp_in x5 K ∧ vp_in (st 9 (Int32.toNatClampNeg x5)) K ∧ vp_in x4 K ∧ (((st 10 (Int32.toNatClampNeg (st 9 (Int32.toNatClampNeg x5)))) ≤ (st 10 (Int32.toNatClampNeg x4)) → wp_Te_toldBy_18 K F post n st x1 x2 x3 x4 (x5 + (1 : Int32))) ∧ (¬ (st 10 (Int32.toNatClampNeg (st 9 (Int32.toNatClampNeg x5)))) ≤ (st 10 (Int32.toNatClampNeg x4)) → vp_in x5 K ∧ wp_Te_toldBy_18 K F post n st x1 x2 x3 (st 9 (Int32.toNatClampNeg x5)) (x5 + (1 : Int32))))))
def wp_Te_toldBy (K F : Nat) (st : jS) (l1 : Int32) (l2 : Int32) (l3 : Int32) (post : Int32 → jS → Prop) : Prop :=
  wp_Te_takeVotes K F st l1 l2 l3 (fun st1 => vp_in (0 : Int32) K ∧ (∃ n11, wp_Te_toldBy_18 K F post n11 st1 l1 l2 l3 (st1 9 (Int32.toNatClampNeg (0 : Int32))) (1 : Int32)))
set_option maxRecDepth 100000 in
set_option maxHeartbeats 4000000 in
theorem c_Te_toldBy {st : jS} {l1 : Int32} {l2 : Int32} {l3 : Int32} {post : Int32 → jS → Prop} (h : wp_Te_toldBy K F st l1 l2 l3 post) : jr_Mi l yTe_toldBy wTe_toldBy ({ frames := 3, cells := 0, slots := 0, locals := 74 }) [.ref (ad 2), .int l1, .int l2, .int l3] D kC (kT cI cII cL cJ) (kW cI cII cL ad K F fr st) (kW cI cII cL ad K F fr) post := by
  refine jr_ofi (cc := bTe_toldBy) (nL := 6) (lv := [(0, .ref (ad 2)), (1, .int l1), (2, .int l2), (3, .int l3)]) (by decide) rfl (Nat.le_of_ble_eq_true rfl) rfl (fun p e s m args below meth c A C hr hlocks => ?_)
  unfold wp_Te_toldBy at h
  refine jr_aload_n (q := 0) C dTe_toldBy_0 rfl rfl ?_
  refine jr_iload_n (q := 1) C dTe_toldBy_1 rfl rfl ?_
  refine jr_iload_n (q := 2) C dTe_toldBy_2 rfl rfl ?_
  refine jr_iload_n (q := 3) C dTe_toldBy_3 rfl rfl ?_
  refine jr_callVv (As := [.int l1, .int l2, .int l3]) (rest := []) C (c_Te_takeVotes h) (cwV 3 C.2.2.2.2.1 (tg_V tm1_167 tm1_169 tp_1 tm1_4 tm1_170) rfl rfl rfl ⟨rfl, by decide, by decide, by decide⟩ ⟨Nat.le_of_ble_eq_true rfl, Nat.le_of_ble_eq_true rfl⟩) dTe_toldBy_4 (rfl : kC[2]? = _) kA_2 rfl rfl (Nat.le_of_ble_eq_true rfl) ⟨Nat.le_of_ble_eq_true rfl, Nat.le_of_ble_eq_true rfl⟩ (fun st1 h => ?_)
  refine jr_aload_n (q := 0) C dTe_toldBy_7 rfl rfl ?_
  refine jr_getf (k := 2) C dTe_toldBy_8 inw_Te (rfl : kC[2]? = _) (by decide) (List.mem_cons_of_mem _ tm1_71) rfl kA_2 rfl ?_
  refine jr_iconst (v := 0) C dTe_toldBy_11 (by decide) ?_
  obtain ⟨h3, h⟩ := h
  refine jr_iald (t0 := 0) C dTe_toldBy_12 kA_9 rfl h3 ?_
  refine jr_istore (lv' := [(4, .int (st1 9 (Int32.toNatClampNeg (0 : Int32)))), (0, .ref (ad 2)), (1, .int l1), (2, .int l2), (3, .int l3)]) C dTe_toldBy_13 (by decide) rfl ?_
  refine jr_iconst (v := 1) C dTe_toldBy_15 (by decide) ?_
  refine jr_istore (lv' := [(5, .int (1 : Int32)), (4, .int (st1 9 (Int32.toNatClampNeg (0 : Int32)))), (0, .ref (ad 2)), (1, .int l1), (2, .int l2), (3, .int l3)]) C dTe_toldBy_16 (by decide) rfl ?_
  have lp9 : ∀ (n : Nat) (st : jS) (x1 : Int32) (x2 : Int32) (x3 : Int32) (x4 : Int32) (x5 : Int32), wp_Te_toldBy_18 K F post n st x1 x2 x3 x4 x5 → jr_J p l e (headSpec wTe_toldBy ({ frames := 3, cells := 0, slots := 0, locals := 74 })).room s m args below meth c A D kC 6 0 0 (MQ below (va_Qi post (jr_B D kC (kT cI cII cL cJ) (kW cI cII cL ad K F fr) A) A) args s 0 0 A) (kW cI cII cL ad K F fr st) 18 [(0, .ref (ad 2)), (1, .int x1), (2, .int x2), (3, .int x3), (4, .int x4), (5, .int x5)] [] := by
    intro n
    induction n with
    | zero => intro st x1 x2 x3 x4 x5 h; exact h.elim
    | succ n ih =>
      intro st x1 x2 x3 x4 x5 h
      unfold wp_Te_toldBy_18 at h
      refine jr_iload (q := 5) C dTe_toldBy_18 rfl ?_
      refine jr_aload_n (q := 0) C dTe_toldBy_20 rfl rfl ?_
      refine jr_getf (k := 1) C dTe_toldBy_21 inw_Te (rfl : kC[2]? = _) (by decide) (List.mem_cons_of_mem _ tm1_70) rfl kA_2 rfl ?_
      refine jr_icmp_ge (tgt := 64) C dTe_toldBy_24 (by decide) (fun z => ?_) (fun z => ?_)
      · have h := h.1 z
        refine jr_aload_n (q := 0) C dTe_toldBy_64 rfl rfl ?_
        refine jr_getf (k := 3) C dTe_toldBy_65 inw_Te (rfl : kC[2]? = _) (by decide) (List.mem_cons_of_mem _ tm1_72) rfl kA_2 rfl ?_
        refine jr_iload (q := 4) C dTe_toldBy_68 rfl ?_
        obtain ⟨h4, h⟩ := h
        refine jr_iald (t0 := 0) C dTe_toldBy_70 kA_10 rfl h4 ?_
        refine jr_aload_n (q := 0) C dTe_toldBy_71 rfl rfl ?_
        refine jr_getf (k := 5) C dTe_toldBy_72 inw_Te (rfl : kC[2]? = _) (by decide) (List.mem_cons_of_mem _ tm1_74) rfl kA_2 rfl ?_
        refine jr_icmp_ge (tgt := 82) C dTe_toldBy_75 (by decide) (fun z => ?_) (fun z => ?_)
        · have h := h.1 z
          refine jr_iload (q := 4) C dTe_toldBy_82 rfl ?_
          exact jr_reti C hr hlocks dTe_toldBy_84 h rfl
        · have h := h.2 z
          refine jr_iconst (v := -1) C dTe_toldBy_78 (by decide) ?_
          refine jr_goto (tgt := 84) C dTe_toldBy_79 (by decide) ?_
          exact jr_reti C hr hlocks dTe_toldBy_84 h rfl
      · have h := h.2 z
        refine jr_aload_n (q := 0) C dTe_toldBy_27 rfl rfl ?_
        refine jr_getf (k := 3) C dTe_toldBy_28 inw_Te (rfl : kC[2]? = _) (by decide) (List.mem_cons_of_mem _ tm1_72) rfl kA_2 rfl ?_
        refine jr_aload_n (q := 0) C dTe_toldBy_31 rfl rfl ?_
        refine jr_getf (k := 2) C dTe_toldBy_32 inw_Te (rfl : kC[2]? = _) (by decide) (List.mem_cons_of_mem _ tm1_71) rfl kA_2 rfl ?_
        refine jr_iload (q := 5) C dTe_toldBy_35 rfl ?_
        obtain ⟨h5, h⟩ := h
        refine jr_iald (t0 := 0) C dTe_toldBy_37 kA_9 rfl h5 ?_
        obtain ⟨h6, h⟩ := h
        refine jr_iald (t0 := 0) C dTe_toldBy_38 kA_10 rfl h6 ?_
        refine jr_aload_n (q := 0) C dTe_toldBy_39 rfl rfl ?_
        refine jr_getf (k := 3) C dTe_toldBy_40 inw_Te (rfl : kC[2]? = _) (by decide) (List.mem_cons_of_mem _ tm1_72) rfl kA_2 rfl ?_
        refine jr_iload (q := 4) C dTe_toldBy_43 rfl ?_
        obtain ⟨h7, h⟩ := h
        refine jr_iald (t0 := 0) C dTe_toldBy_45 kA_10 rfl h7 ?_
        refine jr_icmp_le (tgt := 58) C dTe_toldBy_46 (by decide) (fun z => ?_) (fun z => ?_)
        · have h := h.1 z
          refine jr_iinc (q := 5) (v := (x5 + (1 : Int32))) (lv' := [(5, .int (x5 + (1 : Int32))), (0, .ref (ad 2)), (1, .int x1), (2, .int x2), (3, .int x3), (4, .int x4)]) C dTe_toldBy_58 rfl rfl (by decide) rfl ?_
          refine jr_goto (tgt := 18) C dTe_toldBy_61 (by decide) ?_
          refine jr_lv (lv' := [(0, .ref (ad 2)), (1, .int x1), (2, .int x2), (3, .int x3), (4, .int x4), (5, .int (x5 + (1 : Int32)))]) [1, 2, 3, 4, 5, 0] rfl ?_
          exact ih st x1 x2 x3 x4 (x5 + (1 : Int32)) h
        · have h := h.2 z
          refine jr_aload_n (q := 0) C dTe_toldBy_49 rfl rfl ?_
          refine jr_getf (k := 2) C dTe_toldBy_50 inw_Te (rfl : kC[2]? = _) (by decide) (List.mem_cons_of_mem _ tm1_71) rfl kA_2 rfl ?_
          refine jr_iload (q := 5) C dTe_toldBy_53 rfl ?_
          obtain ⟨h8, h⟩ := h
          refine jr_iald (t0 := 0) C dTe_toldBy_55 kA_9 rfl h8 ?_
          refine jr_istore (lv' := [(4, .int (st 9 (Int32.toNatClampNeg x5))), (0, .ref (ad 2)), (1, .int x1), (2, .int x2), (3, .int x3), (5, .int x5)]) C dTe_toldBy_56 (by decide) rfl ?_
          refine jr_iinc (q := 5) (v := (x5 + (1 : Int32))) (lv' := [(5, .int (x5 + (1 : Int32))), (4, .int (st 9 (Int32.toNatClampNeg x5))), (0, .ref (ad 2)), (1, .int x1), (2, .int x2), (3, .int x3)]) C dTe_toldBy_58 rfl rfl (by decide) rfl ?_
          refine jr_goto (tgt := 18) C dTe_toldBy_61 (by decide) ?_
          refine jr_lv (lv' := [(0, .ref (ad 2)), (1, .int x1), (2, .int x2), (3, .int x3), (4, .int (st 9 (Int32.toNatClampNeg x5))), (5, .int (x5 + (1 : Int32)))]) [2, 3, 4, 5, 1, 0] rfl ?_
          exact ih st x1 x2 x3 (st 9 (Int32.toNatClampNeg x5)) (x5 + (1 : Int32)) h
  obtain ⟨n10, h⟩ := h
  refine jr_lv (lv' := [(0, .ref (ad 2)), (1, .int l1), (2, .int l2), (3, .int l3), (4, .int (st1 9 (Int32.toNatClampNeg (0 : Int32)))), (5, .int (1 : Int32))]) [2, 3, 4, 5, 1, 0] rfl ?_
  exact lp9 n10 st1 l1 l2 l3 (st1 9 (Int32.toNatClampNeg (0 : Int32))) (1 : Int32) h
def wp_Te_told (K F : Nat) (st : jS) (l1 : Int32) (post : Int32 → jS → Prop) : Prop :=
  wp_Te_toldBy K F st l1 (0 : Int32) (st 1 0) (fun r2 st1 => post r2 st1)
set_option maxRecDepth 100000 in
set_option maxHeartbeats 4000000 in
theorem c_Te_told {st : jS} {l1 : Int32} {post : Int32 → jS → Prop} (h : wp_Te_told K F st l1 post) : jr_Mi l yTe_told wTe_told ({ frames := 4, cells := 0, slots := 0, locals := 99 }) [.ref (ad 2), .int l1] D kC (kT cI cII cL cJ) (kW cI cII cL ad K F fr st) (kW cI cII cL ad K F fr) post := by
  refine jr_ofi (cc := bTe_told) (nL := 2) (lv := [(0, .ref (ad 2)), (1, .int l1)]) (by decide) rfl (Nat.le_of_ble_eq_true rfl) rfl (fun p e s m args below meth c A C hr hlocks => ?_)
  unfold wp_Te_told at h
  refine jr_aload_n (q := 0) C dTe_told_0 rfl rfl ?_
  refine jr_iload_n (q := 1) C dTe_told_1 rfl rfl ?_
  refine jr_iconst (v := 0) C dTe_told_2 (by decide) ?_
  refine jr_aload_n (q := 0) C dTe_told_3 rfl rfl ?_
  refine jr_getf (k := 0) C dTe_told_4 inw_Te (rfl : kC[2]? = _) (by decide) (List.mem_cons_of_mem _ tm1_69) rfl kA_2 rfl ?_
  refine jr_getf (k := 0) C dTe_told_7 inw_Ex (rfl : kC[1]? = _) (by decide) (List.mem_cons_of_mem _ tm1_37) rfl kA_1 rfl ?_
  refine jr_callVi (As := [.int l1, .int (0 : Int32), .int (st 1 0)]) (rest := []) C (c_Te_toldBy h) (cwV 3 C.2.2.2.2.1 (tg_V tm1_163 tm1_165 tp_0 tm1_4 tm1_166) rfl rfl rfl ⟨rfl, by decide, by decide, by decide⟩ ⟨Nat.le_of_ble_eq_true rfl, Nat.le_of_ble_eq_true rfl⟩) dTe_told_10 (rfl : kC[2]? = _) kA_2 rfl rfl (Nat.le_of_ble_eq_true rfl) ⟨Nat.le_of_ble_eq_true rfl, Nat.le_of_ble_eq_true rfl⟩ (fun r2 st1 h => ?_)
  exact jr_reti C hr hlocks dTe_told_13 h rfl
def wp_Te_countTold_5 (K F : Nat) (post : Int32 → jS → Prop) : Nat → jS → Int32 → Int32 → Int32 → Int32 → Prop
  | 0 => fun _ _ _ _ _ => False
  | n + 1 => fun st x1 x2 x3 x4 => (((st 1 5) ≤ x4 → post x3 st) ∧ (¬ (st 1 5) ≤ x4 → vp_in x4 24 ∧ ((¬ (st 6 (Int32.toNatClampNeg x4)) = x1 → wp_Te_countTold_5 K F post n st x1 x2 x3 (x4 + (1 : Int32))) ∧ ((st 6 (Int32.toNatClampNeg x4)) = x1 → wp_Te_told K F st x4 (fun r3 st2 => ((¬ r3 = x2 → wp_Te_countTold_5 K F post n st2 x1 x2 x3 (x4 + (1 : Int32))) ∧ (r3 = x2 → wp_Te_countTold_5 K F post n st2 x1 x2 (x3 + (1 : Int32)) (x4 + (1 : Int32)))))))))
def wp_Te_countTold (K F : Nat) (st : jS) (l1 : Int32) (l2 : Int32) (post : Int32 → jS → Prop) : Prop :=
  (∃ n6, wp_Te_countTold_5 K F post n6 st l1 l2 (0 : Int32) (0 : Int32))
set_option maxRecDepth 100000 in
set_option maxHeartbeats 4000000 in
theorem c_Te_countTold {st : jS} {l1 : Int32} {l2 : Int32} {post : Int32 → jS → Prop} (h : wp_Te_countTold K F st l1 l2 post) : jr_Mi l yTe_countTold wTe_countTold ({ frames := 5, cells := 0, slots := 0, locals := 120 }) [.ref (ad 2), .int l1, .int l2] D kC (kT cI cII cL cJ) (kW cI cII cL ad K F fr st) (kW cI cII cL ad K F fr) post := by
  refine jr_ofi (cc := bTe_countTold) (nL := 5) (lv := [(0, .ref (ad 2)), (1, .int l1), (2, .int l2)]) (by decide) rfl (Nat.le_of_ble_eq_true rfl) rfl (fun p e s m args below meth c A C hr hlocks => ?_)
  unfold wp_Te_countTold at h
  refine jr_iconst (v := 0) C dTe_countTold_0 (by decide) ?_
  refine jr_istore_n (lv' := [(3, .int (0 : Int32)), (0, .ref (ad 2)), (1, .int l1), (2, .int l2)]) C dTe_countTold_1 rfl (by decide) rfl ?_
  refine jr_iconst (v := 0) C dTe_countTold_2 (by decide) ?_
  refine jr_istore (lv' := [(4, .int (0 : Int32)), (3, .int (0 : Int32)), (0, .ref (ad 2)), (1, .int l1), (2, .int l2)]) C dTe_countTold_3 (by decide) rfl ?_
  have lp4 : ∀ (n : Nat) (st : jS) (x1 : Int32) (x2 : Int32) (x3 : Int32) (x4 : Int32), wp_Te_countTold_5 K F post n st x1 x2 x3 x4 → jr_J p l e (headSpec wTe_countTold ({ frames := 5, cells := 0, slots := 0, locals := 120 })).room s m args below meth c A D kC 5 0 0 (MQ below (va_Qi post (jr_B D kC (kT cI cII cL cJ) (kW cI cII cL ad K F fr) A) A) args s 0 0 A) (kW cI cII cL ad K F fr st) 5 [(0, .ref (ad 2)), (1, .int x1), (2, .int x2), (3, .int x3), (4, .int x4)] [] := by
    intro n
    induction n with
    | zero => intro st x1 x2 x3 x4 h; exact h.elim
    | succ n ih =>
      intro st x1 x2 x3 x4 h
      unfold wp_Te_countTold_5 at h
      refine jr_iload (q := 4) C dTe_countTold_5 rfl ?_
      refine jr_aload_n (q := 0) C dTe_countTold_7 rfl rfl ?_
      refine jr_getf (k := 0) C dTe_countTold_8 inw_Te (rfl : kC[2]? = _) (by decide) (List.mem_cons_of_mem _ tm1_69) rfl kA_2 rfl ?_
      refine jr_getf (k := 5) C dTe_countTold_11 inw_Ex (rfl : kC[1]? = _) (by decide) (List.mem_cons_of_mem _ tm1_48) rfl kA_1 rfl ?_
      refine jr_icmp_ge (tgt := 50) C dTe_countTold_14 (by decide) (fun z => ?_) (fun z => ?_)
      · have h := h.1 z
        refine jr_iload_n (q := 3) C dTe_countTold_50 rfl rfl ?_
        exact jr_reti C hr hlocks dTe_countTold_51 h rfl
      · have h := h.2 z
        refine jr_aload_n (q := 0) C dTe_countTold_17 rfl rfl ?_
        refine jr_getf (k := 0) C dTe_countTold_18 inw_Te (rfl : kC[2]? = _) (by decide) (List.mem_cons_of_mem _ tm1_69) rfl kA_2 rfl ?_
        refine jr_getf (k := 2) C dTe_countTold_21 inw_Ex (rfl : kC[1]? = _) (by decide) (List.mem_cons_of_mem _ tm1_42) rfl kA_1 rfl ?_
        refine jr_iload (q := 4) C dTe_countTold_24 rfl ?_
        obtain ⟨h1, h⟩ := h
        refine jr_iald (t0 := 0) C dTe_countTold_26 kA_6 rfl h1 ?_
        refine jr_iload_n (q := 1) C dTe_countTold_27 rfl rfl ?_
        refine jr_icmp_ne (tgt := 44) C dTe_countTold_28 (by decide) (fun z => ?_) (fun z => ?_)
        · have h := h.1 z
          refine jr_iinc (q := 4) (v := (x4 + (1 : Int32))) (lv' := [(4, .int (x4 + (1 : Int32))), (0, .ref (ad 2)), (1, .int x1), (2, .int x2), (3, .int x3)]) C dTe_countTold_44 rfl rfl (by decide) rfl ?_
          refine jr_goto (tgt := 5) C dTe_countTold_47 (by decide) ?_
          refine jr_lv (lv' := [(0, .ref (ad 2)), (1, .int x1), (2, .int x2), (3, .int x3), (4, .int (x4 + (1 : Int32)))]) [1, 2, 3, 4, 0] rfl ?_
          exact ih st x1 x2 x3 (x4 + (1 : Int32)) h
        · have h := h.2 z
          refine jr_aload_n (q := 0) C dTe_countTold_31 rfl rfl ?_
          refine jr_iload (q := 4) C dTe_countTold_32 rfl ?_
          refine jr_callVi (As := [.int x4]) (rest := []) C (c_Te_told h) (cwV 1 C.2.2.2.2.1 (tg_V tm1_159 tm1_160 tm1_161 tm1_4 tm1_162) rfl rfl rfl ⟨rfl, by decide, by decide, by decide⟩ ⟨Nat.le_of_ble_eq_true rfl, Nat.le_of_ble_eq_true rfl⟩) dTe_countTold_34 (rfl : kC[2]? = _) kA_2 rfl rfl (Nat.le_of_ble_eq_true rfl) ⟨Nat.le_of_ble_eq_true rfl, Nat.le_of_ble_eq_true rfl⟩ (fun r3 st2 h => ?_)
          refine jr_iload_n (q := 2) C dTe_countTold_37 rfl rfl ?_
          refine jr_icmp_ne (tgt := 44) C dTe_countTold_38 (by decide) (fun z => ?_) (fun z => ?_)
          · have h := h.1 z
            refine jr_iinc (q := 4) (v := (x4 + (1 : Int32))) (lv' := [(4, .int (x4 + (1 : Int32))), (0, .ref (ad 2)), (1, .int x1), (2, .int x2), (3, .int x3)]) C dTe_countTold_44 rfl rfl (by decide) rfl ?_
            refine jr_goto (tgt := 5) C dTe_countTold_47 (by decide) ?_
            refine jr_lv (lv' := [(0, .ref (ad 2)), (1, .int x1), (2, .int x2), (3, .int x3), (4, .int (x4 + (1 : Int32)))]) [1, 2, 3, 4, 0] rfl ?_
            exact ih st2 x1 x2 x3 (x4 + (1 : Int32)) h
          · have h := h.2 z
            refine jr_iinc (q := 3) (v := (x3 + (1 : Int32))) (lv' := [(3, .int (x3 + (1 : Int32))), (0, .ref (ad 2)), (1, .int x1), (2, .int x2), (4, .int x4)]) C dTe_countTold_41 rfl rfl (by decide) rfl ?_
            refine jr_iinc (q := 4) (v := (x4 + (1 : Int32))) (lv' := [(4, .int (x4 + (1 : Int32))), (3, .int (x3 + (1 : Int32))), (0, .ref (ad 2)), (1, .int x1), (2, .int x2)]) C dTe_countTold_44 rfl rfl (by decide) rfl ?_
            refine jr_goto (tgt := 5) C dTe_countTold_47 (by decide) ?_
            refine jr_lv (lv' := [(0, .ref (ad 2)), (1, .int x1), (2, .int x2), (3, .int (x3 + (1 : Int32))), (4, .int (x4 + (1 : Int32)))]) [2, 3, 4, 1, 0] rfl ?_
            exact ih st2 x1 x2 (x3 + (1 : Int32)) (x4 + (1 : Int32)) h
  obtain ⟨n5, h⟩ := h
  refine jr_lv (lv' := [(0, .ref (ad 2)), (1, .int l1), (2, .int l2), (3, .int (0 : Int32)), (4, .int (0 : Int32))]) [2, 3, 4, 1, 0] rfl ?_
  exact lp4 n5 st l1 l2 (0 : Int32) (0 : Int32) h
def wp_Te_countUnknown_4 (K F : Nat) (post : Int32 → jS → Prop) : Nat → jS → Int32 → Int32 → Prop
  | 0 => fun _ _ _ => False
  | n + 1 => fun st x1 x2 => (((st 1 5) ≤ x2 → post x1 st) ∧ (¬ (st 1 5) ≤ x2 → wp_Te_told K F st x2 (fun r2 st1 => ((¬ r2 = (-1 : Int32) → wp_Te_countUnknown_4 K F post n st1 x1 (x2 + (1 : Int32))) ∧ (r2 = (-1 : Int32) → wp_Te_countUnknown_4 K F post n st1 (x1 + (1 : Int32)) (x2 + (1 : Int32)))))))
def wp_Te_countUnknown (K F : Nat) (st : jS) (post : Int32 → jS → Prop) : Prop :=
  (∃ n5, wp_Te_countUnknown_4 K F post n5 st (0 : Int32) (0 : Int32))
set_option maxRecDepth 100000 in
set_option maxHeartbeats 4000000 in
theorem c_Te_countUnknown {st : jS} {post : Int32 → jS → Prop} (h : wp_Te_countUnknown K F st post) : jr_Mi l yTe_countUnknown wTe_countUnknown ({ frames := 5, cells := 0, slots := 0, locals := 120 }) [.ref (ad 2)] D kC (kT cI cII cL cJ) (kW cI cII cL ad K F fr st) (kW cI cII cL ad K F fr) post := by
  refine jr_ofi (cc := bTe_countUnknown) (nL := 3) (lv := [(0, .ref (ad 2))]) (by decide) rfl (Nat.le_of_ble_eq_true rfl) rfl (fun p e s m args below meth c A C hr hlocks => ?_)
  unfold wp_Te_countUnknown at h
  refine jr_iconst (v := 0) C dTe_countUnknown_0 (by decide) ?_
  refine jr_istore_n (lv' := [(1, .int (0 : Int32)), (0, .ref (ad 2))]) C dTe_countUnknown_1 rfl (by decide) rfl ?_
  refine jr_iconst (v := 0) C dTe_countUnknown_2 (by decide) ?_
  refine jr_istore_n (lv' := [(2, .int (0 : Int32)), (1, .int (0 : Int32)), (0, .ref (ad 2))]) C dTe_countUnknown_3 rfl (by decide) rfl ?_
  have lp3 : ∀ (n : Nat) (st : jS) (x1 : Int32) (x2 : Int32), wp_Te_countUnknown_4 K F post n st x1 x2 → jr_J p l e (headSpec wTe_countUnknown ({ frames := 5, cells := 0, slots := 0, locals := 120 })).room s m args below meth c A D kC 3 0 0 (MQ below (va_Qi post (jr_B D kC (kT cI cII cL cJ) (kW cI cII cL ad K F fr) A) A) args s 0 0 A) (kW cI cII cL ad K F fr st) 4 [(0, .ref (ad 2)), (1, .int x1), (2, .int x2)] [] := by
    intro n
    induction n with
    | zero => intro st x1 x2 h; exact h.elim
    | succ n ih =>
      intro st x1 x2 h
      unfold wp_Te_countUnknown_4 at h
      refine jr_iload_n (q := 2) C dTe_countUnknown_4 rfl rfl ?_
      refine jr_aload_n (q := 0) C dTe_countUnknown_5 rfl rfl ?_
      refine jr_getf (k := 0) C dTe_countUnknown_6 inw_Te (rfl : kC[2]? = _) (by decide) (List.mem_cons_of_mem _ tm1_69) rfl kA_2 rfl ?_
      refine jr_getf (k := 5) C dTe_countUnknown_9 inw_Ex (rfl : kC[1]? = _) (by decide) (List.mem_cons_of_mem _ tm1_48) rfl kA_1 rfl ?_
      refine jr_icmp_ge (tgt := 33) C dTe_countUnknown_12 (by decide) (fun z => ?_) (fun z => ?_)
      · have h := h.1 z
        refine jr_iload_n (q := 1) C dTe_countUnknown_33 rfl rfl ?_
        exact jr_reti C hr hlocks dTe_countUnknown_34 h rfl
      · have h := h.2 z
        refine jr_aload_n (q := 0) C dTe_countUnknown_15 rfl rfl ?_
        refine jr_iload_n (q := 2) C dTe_countUnknown_16 rfl rfl ?_
        refine jr_callVi (As := [.int x2]) (rest := []) C (c_Te_told h) (cwV 1 C.2.2.2.2.1 (tg_V tm1_159 tm1_160 tm1_161 tm1_4 tm1_162) rfl rfl rfl ⟨rfl, by decide, by decide, by decide⟩ ⟨Nat.le_of_ble_eq_true rfl, Nat.le_of_ble_eq_true rfl⟩) dTe_countUnknown_17 (rfl : kC[2]? = _) kA_2 rfl rfl (Nat.le_of_ble_eq_true rfl) ⟨Nat.le_of_ble_eq_true rfl, Nat.le_of_ble_eq_true rfl⟩ (fun r2 st1 h => ?_)
        refine jr_iconst (v := -1) C dTe_countUnknown_20 (by decide) ?_
        refine jr_icmp_ne (tgt := 27) C dTe_countUnknown_21 (by decide) (fun z => ?_) (fun z => ?_)
        · have h := h.1 z
          refine jr_iinc (q := 2) (v := (x2 + (1 : Int32))) (lv' := [(2, .int (x2 + (1 : Int32))), (0, .ref (ad 2)), (1, .int x1)]) C dTe_countUnknown_27 rfl rfl (by decide) rfl ?_
          refine jr_goto (tgt := 4) C dTe_countUnknown_30 (by decide) ?_
          refine jr_lv (lv' := [(0, .ref (ad 2)), (1, .int x1), (2, .int (x2 + (1 : Int32)))]) [1, 2, 0] rfl ?_
          exact ih st1 x1 (x2 + (1 : Int32)) h
        · have h := h.2 z
          refine jr_iinc (q := 1) (v := (x1 + (1 : Int32))) (lv' := [(1, .int (x1 + (1 : Int32))), (0, .ref (ad 2)), (2, .int x2)]) C dTe_countUnknown_24 rfl rfl (by decide) rfl ?_
          refine jr_iinc (q := 2) (v := (x2 + (1 : Int32))) (lv' := [(2, .int (x2 + (1 : Int32))), (1, .int (x1 + (1 : Int32))), (0, .ref (ad 2))]) C dTe_countUnknown_27 rfl rfl (by decide) rfl ?_
          refine jr_goto (tgt := 4) C dTe_countUnknown_30 (by decide) ?_
          refine jr_lv (lv' := [(0, .ref (ad 2)), (1, .int (x1 + (1 : Int32))), (2, .int (x2 + (1 : Int32)))]) [2, 1, 0] rfl ?_
          exact ih st1 (x1 + (1 : Int32)) (x2 + (1 : Int32)) h
  obtain ⟨n4, h⟩ := h
  refine jr_lv (lv' := [(0, .ref (ad 2)), (1, .int (0 : Int32)), (2, .int (0 : Int32))]) [2, 1, 0] rfl ?_
  exact lp3 n4 st (0 : Int32) (0 : Int32) h
def wp_Te_rightBy_4 (K F : Nat) (post : Int32 → jS → Prop) : Nat → jS → Int32 → Int32 → Int32 → Prop
  | 0 => fun _ _ _ _ => False
  | n + 1 => fun st x1 x2 x3 => (((st 1 5) ≤ x3 → post x2 st) ∧ (¬ (st 1 5) ≤ x3 → vp_in x3 24 ∧ (((st 6 (Int32.toNatClampNeg x3)) = (-1 : Int32) → wp_Te_rightBy_4 K F post n st x1 x2 (x3 + (1 : Int32))) ∧ (¬ (st 6 (Int32.toNatClampNeg x3)) = (-1 : Int32) → wp_Te_toldBy K F st x3 x1 (x1 + (1 : Int32)) (fun r3 st2 => ((¬ r3 = (st 6 (Int32.toNatClampNeg x3)) → wp_Te_rightBy_4 K F post n st2 x1 x2 (x3 + (1 : Int32))) ∧ (r3 = (st 6 (Int32.toNatClampNeg x3)) → wp_Te_rightBy_4 K F post n st2 x1 (x2 + (1 : Int32)) (x3 + (1 : Int32)))))))))
def wp_Te_rightBy (K F : Nat) (st : jS) (l1 : Int32) (post : Int32 → jS → Prop) : Prop :=
  (∃ n6, wp_Te_rightBy_4 K F post n6 st l1 (0 : Int32) (0 : Int32))
set_option maxRecDepth 100000 in
set_option maxHeartbeats 4000000 in
theorem c_Te_rightBy {st : jS} {l1 : Int32} {post : Int32 → jS → Prop} (h : wp_Te_rightBy K F st l1 post) : jr_Mi l yTe_rightBy wTe_rightBy ({ frames := 4, cells := 0, slots := 0, locals := 99 }) [.ref (ad 2), .int l1] D kC (kT cI cII cL cJ) (kW cI cII cL ad K F fr st) (kW cI cII cL ad K F fr) post := by
  refine jr_ofi (cc := bTe_rightBy) (nL := 5) (lv := [(0, .ref (ad 2)), (1, .int l1)]) (by decide) rfl (Nat.le_of_ble_eq_true rfl) rfl (fun p e s m args below meth c A C hr hlocks => ?_)
  unfold wp_Te_rightBy at h
  refine jr_iconst (v := 0) C dTe_rightBy_0 (by decide) ?_
  refine jr_istore_n (lv' := [(2, .int (0 : Int32)), (0, .ref (ad 2)), (1, .int l1)]) C dTe_rightBy_1 rfl (by decide) rfl ?_
  refine jr_iconst (v := 0) C dTe_rightBy_2 (by decide) ?_
  refine jr_istore_n (lv' := [(3, .int (0 : Int32)), (2, .int (0 : Int32)), (0, .ref (ad 2)), (1, .int l1)]) C dTe_rightBy_3 rfl (by decide) rfl ?_
  have lp4 : ∀ (n : Nat) (st : jS) (x1 : Int32) (x2 : Int32) (x3 : Int32), wp_Te_rightBy_4 K F post n st x1 x2 x3 → jr_J p l e (headSpec wTe_rightBy ({ frames := 4, cells := 0, slots := 0, locals := 99 })).room s m args below meth c A D kC 5 0 0 (MQ below (va_Qi post (jr_B D kC (kT cI cII cL cJ) (kW cI cII cL ad K F fr) A) A) args s 0 0 A) (kW cI cII cL ad K F fr st) 4 [(0, .ref (ad 2)), (1, .int x1), (2, .int x2), (3, .int x3)] [] := by
    intro n
    induction n with
    | zero => intro st x1 x2 x3 h; exact h.elim
    | succ n ih =>
      intro st x1 x2 x3 h
      unfold wp_Te_rightBy_4 at h
      refine jr_iload_n (q := 3) C dTe_rightBy_4 rfl rfl ?_
      refine jr_aload_n (q := 0) C dTe_rightBy_5 rfl rfl ?_
      refine jr_getf (k := 0) C dTe_rightBy_6 inw_Te (rfl : kC[2]? = _) (by decide) (List.mem_cons_of_mem _ tm1_69) rfl kA_2 rfl ?_
      refine jr_getf (k := 5) C dTe_rightBy_9 inw_Ex (rfl : kC[1]? = _) (by decide) (List.mem_cons_of_mem _ tm1_48) rfl kA_1 rfl ?_
      refine jr_icmp_ge (tgt := 55) C dTe_rightBy_12 (by decide) (fun z => ?_) (fun z => ?_)
      · have h := h.1 z
        refine jr_iload_n (q := 2) C dTe_rightBy_55 rfl rfl ?_
        exact jr_reti C hr hlocks dTe_rightBy_56 h rfl
      · have h := h.2 z
        refine jr_aload_n (q := 0) C dTe_rightBy_15 rfl rfl ?_
        refine jr_getf (k := 0) C dTe_rightBy_16 inw_Te (rfl : kC[2]? = _) (by decide) (List.mem_cons_of_mem _ tm1_69) rfl kA_2 rfl ?_
        refine jr_getf (k := 2) C dTe_rightBy_19 inw_Ex (rfl : kC[1]? = _) (by decide) (List.mem_cons_of_mem _ tm1_42) rfl kA_1 rfl ?_
        refine jr_iload_n (q := 3) C dTe_rightBy_22 rfl rfl ?_
        obtain ⟨h1, h⟩ := h
        refine jr_iald (t0 := 0) C dTe_rightBy_23 kA_6 rfl h1 ?_
        refine jr_istore (lv' := [(4, .int (st 6 (Int32.toNatClampNeg x3))), (0, .ref (ad 2)), (1, .int x1), (2, .int x2), (3, .int x3)]) C dTe_rightBy_24 (by decide) rfl ?_
        refine jr_iload (q := 0) C dTe_rightBy_26 rfl ?_
        refine jr_iconst (v := -1) C dTe_rightBy_28 (by decide) ?_
        refine jr_icmp_eq (tgt := 49) C dTe_rightBy_29 (by decide) (fun z => ?_) (fun z => ?_)
        · have h := h.1 z
          refine jr_iinc (q := 4) (v := (x3 + (1 : Int32))) (lv' := [(3, .int (x3 + (1 : Int32))), (4, .int (st 6 (Int32.toNatClampNeg x3))), (0, .ref (ad 2)), (1, .int x1), (2, .int x2)]) C dTe_rightBy_49 rfl rfl (by decide) rfl ?_
          refine jr_goto (tgt := 4) C dTe_rightBy_52 (by decide) ?_
          refine jr_lv (lv' := [(0, .ref (ad 2)), (1, .int x1), (2, .int x2), (3, .int (x3 + (1 : Int32)))]) [2, 3, 4, 0] rfl ?_
          exact ih st x1 x2 (x3 + (1 : Int32)) h
        · have h := h.2 z
          refine jr_aload_n (q := 1) C dTe_rightBy_32 rfl rfl ?_
          refine jr_iload_n (q := 4) C dTe_rightBy_33 rfl rfl ?_
          refine jr_iload_n (q := 2) C dTe_rightBy_34 rfl rfl ?_
          refine jr_iload_n (q := 2) C dTe_rightBy_35 rfl rfl ?_
          refine jr_iconst (v := 1) C dTe_rightBy_36 (by decide) ?_
          refine jr_iadd C dTe_rightBy_37 ?_
          refine jr_callVi (As := [.int x3, .int x1, .int (x1 + (1 : Int32))]) (rest := []) C (c_Te_toldBy h) (cwV 3 C.2.2.2.2.1 (tg_V tm1_163 tm1_165 tp_0 tm1_4 tm1_166) rfl rfl rfl ⟨rfl, by decide, by decide, by decide⟩ ⟨Nat.le_of_ble_eq_true rfl, Nat.le_of_ble_eq_true rfl⟩) dTe_rightBy_38 (rfl : kC[2]? = _) kA_2 rfl rfl (Nat.le_of_ble_eq_true rfl) ⟨Nat.le_of_ble_eq_true rfl, Nat.le_of_ble_eq_true rfl⟩ (fun r3 st2 h => ?_)
          refine jr_iload (q := 0) C dTe_rightBy_41 rfl ?_
          refine jr_icmp_ne (tgt := 49) C dTe_rightBy_43 (by decide) (fun z => ?_) (fun z => ?_)
          · have h := h.1 z
            refine jr_iinc (q := 4) (v := (x3 + (1 : Int32))) (lv' := [(3, .int (x3 + (1 : Int32))), (4, .int (st 6 (Int32.toNatClampNeg x3))), (0, .ref (ad 2)), (1, .int x1), (2, .int x2)]) C dTe_rightBy_49 rfl rfl (by decide) rfl ?_
            refine jr_goto (tgt := 4) C dTe_rightBy_52 (by decide) ?_
            refine jr_lv (lv' := [(0, .ref (ad 2)), (1, .int x1), (2, .int x2), (3, .int (x3 + (1 : Int32)))]) [2, 3, 4, 0] rfl ?_
            exact ih st2 x1 x2 (x3 + (1 : Int32)) h
          · have h := h.2 z
            refine jr_iinc (q := 3) (v := (x2 + (1 : Int32))) (lv' := [(2, .int (x2 + (1 : Int32))), (4, .int (st 6 (Int32.toNatClampNeg x3))), (0, .ref (ad 2)), (1, .int x1), (3, .int x3)]) C dTe_rightBy_46 rfl rfl (by decide) rfl ?_
            refine jr_iinc (q := 4) (v := (x3 + (1 : Int32))) (lv' := [(3, .int (x3 + (1 : Int32))), (2, .int (x2 + (1 : Int32))), (4, .int (st 6 (Int32.toNatClampNeg x3))), (0, .ref (ad 2)), (1, .int x1)]) C dTe_rightBy_49 rfl rfl (by decide) rfl ?_
            refine jr_goto (tgt := 4) C dTe_rightBy_52 (by decide) ?_
            refine jr_lv (lv' := [(0, .ref (ad 2)), (1, .int x1), (2, .int (x2 + (1 : Int32))), (3, .int (x3 + (1 : Int32)))]) [3, 4, 1, 0] rfl ?_
            exact ih st2 x1 (x2 + (1 : Int32)) (x3 + (1 : Int32)) h
  obtain ⟨n5, h⟩ := h
  refine jr_lv (lv' := [(0, .ref (ad 2)), (1, .int l1), (2, .int (0 : Int32)), (3, .int (0 : Int32))]) [2, 3, 1, 0] rfl ?_
  exact lp4 n5 st l1 (0 : Int32) (0 : Int32) h
def wp_Te_countBefore_4 (K F : Nat) (post : Int32 → jS → Prop) : Nat → jS → Int32 → Int32 → Int32 → Prop
  | 0 => fun _ _ _ _ => False
  | n + 1 => fun st x1 x2 x3 => (((st 1 0) ≤ x3 → post x2 st) ∧ (¬ (st 1 0) ≤ x3 → vp_in x3 F ∧ vp_in x1 F ∧ ((¬ (st 11 (Int32.toNatClampNeg x3)) = (st 11 (Int32.toNatClampNeg x1)) → vp_in x3 F ∧ vp_in x1 F ∧ (((st 11 (Int32.toNatClampNeg x1)) < (st 11 (Int32.toNatClampNeg x3)) → wp_Te_countBefore_4 K F post n st x1 (x2 + (1 : Int32)) (x3 + (1 : Int32))) ∧ (¬ (st 11 (Int32.toNatClampNeg x1)) < (st 11 (Int32.toNatClampNeg x3)) → (((0 : Int32) = 0 → wp_Te_countBefore_4 K F post n st x1 x2 (x3 + (1 : Int32))) ∧ (¬ (0 : Int32) = 0 → wp_Te_countBefore_4 K F post n st x1 (x2 + (1 : Int32)) (x3 + (1 : Int32))))))) ∧ ((st 11 (Int32.toNatClampNeg x3)) = (st 11 (Int32.toNatClampNeg x1)) → ((x1 ≤ x3 → vp_in x3 F ∧ vp_in x1 F ∧ (((st 11 (Int32.toNatClampNeg x1)) < (st 11 (Int32.toNatClampNeg x3)) → wp_Te_countBefore_4 K F post n st x1 (x2 + (1 : Int32)) (x3 + (1 : Int32))) ∧ (¬ (st 11 (Int32.toNatClampNeg x1)) < (st 11 (Int32.toNatClampNeg x3)) → (((0 : Int32) = 0 → wp_Te_countBefore_4 K F post n st x1 x2 (x3 + (1 : Int32))) ∧ (¬ (0 : Int32) = 0 → wp_Te_countBefore_4 K F post n st x1 (x2 + (1 : Int32)) (x3 + (1 : Int32))))))) ∧ (¬ x1 ≤ x3 → vp_in x3 F ∧ vp_in x1 F ∧ (((st 11 (Int32.toNatClampNeg x1)) < (st 11 (Int32.toNatClampNeg x3)) → wp_Te_countBefore_4 K F post n st x1 (x2 + (1 : Int32)) (x3 + (1 : Int32))) ∧ (¬ (st 11 (Int32.toNatClampNeg x1)) < (st 11 (Int32.toNatClampNeg x3)) → (((1 : Int32) = 0 → wp_Te_countBefore_4 K F post n st x1 x2 (x3 + (1 : Int32))) ∧ (¬ (1 : Int32) = 0 → wp_Te_countBefore_4 K F post n st x1 (x2 + (1 : Int32)) (x3 + (1 : Int32))))))))))))
def wp_Te_countBefore (K F : Nat) (st : jS) (l1 : Int32) (post : Int32 → jS → Prop) : Prop :=
  (∃ n11, wp_Te_countBefore_4 K F post n11 st l1 (0 : Int32) (0 : Int32))
set_option maxRecDepth 100000 in
set_option maxHeartbeats 4000000 in
theorem c_Te_countBefore {st : jS} {l1 : Int32} {post : Int32 → jS → Prop} (h : wp_Te_countBefore K F st l1 post) : jr_Mi l yTe_countBefore wTe_countBefore ({ frames := 0, cells := 0, slots := 0, locals := 0 }) [.ref (ad 2), .int l1] D kC (kT cI cII cL cJ) (kW cI cII cL ad K F fr st) (kW cI cII cL ad K F fr) post := by
  refine jr_ofi (cc := bTe_countBefore) (nL := 5) (lv := [(0, .ref (ad 2)), (1, .int l1)]) (by decide) rfl (Nat.le_of_ble_eq_true rfl) rfl (fun p e s m args below meth c A C hr hlocks => ?_)
  unfold wp_Te_countBefore at h
  refine jr_iconst (v := 0) C dTe_countBefore_0 (by decide) ?_
  refine jr_istore_n (lv' := [(2, .int (0 : Int32)), (0, .ref (ad 2)), (1, .int l1)]) C dTe_countBefore_1 rfl (by decide) rfl ?_
  refine jr_iconst (v := 0) C dTe_countBefore_2 (by decide) ?_
  refine jr_istore_n (lv' := [(3, .int (0 : Int32)), (2, .int (0 : Int32)), (0, .ref (ad 2)), (1, .int l1)]) C dTe_countBefore_3 rfl (by decide) rfl ?_
  have lp9 : ∀ (n : Nat) (st : jS) (x1 : Int32) (x2 : Int32) (x3 : Int32), wp_Te_countBefore_4 K F post n st x1 x2 x3 → jr_J p l e (headSpec wTe_countBefore ({ frames := 0, cells := 0, slots := 0, locals := 0 })).room s m args below meth c A D kC 5 0 0 (MQ below (va_Qi post (jr_B D kC (kT cI cII cL cJ) (kW cI cII cL ad K F fr) A) A) args s 0 0 A) (kW cI cII cL ad K F fr st) 4 [(0, .ref (ad 2)), (1, .int x1), (2, .int x2), (3, .int x3)] [] := by
    intro n
    induction n with
    | zero => intro st x1 x2 x3 h; exact h.elim
    | succ n ih =>
      intro st x1 x2 x3 h
      unfold wp_Te_countBefore_4 at h
      refine jr_iload_n (q := 3) C dTe_countBefore_4 rfl rfl ?_
      refine jr_aload_n (q := 0) C dTe_countBefore_5 rfl rfl ?_
      refine jr_getf (k := 0) C dTe_countBefore_6 inw_Te (rfl : kC[2]? = _) (by decide) (List.mem_cons_of_mem _ tm1_69) rfl kA_2 rfl ?_
      refine jr_getf (k := 0) C dTe_countBefore_9 inw_Ex (rfl : kC[1]? = _) (by decide) (List.mem_cons_of_mem _ tm1_37) rfl kA_1 rfl ?_
      refine jr_icmp_ge (tgt := 71) C dTe_countBefore_12 (by decide) (fun z => ?_) (fun z => ?_)
      · have h := h.1 z
        refine jr_iload_n (q := 2) C dTe_countBefore_71 rfl rfl ?_
        exact jr_reti C hr hlocks dTe_countBefore_72 h rfl
      · have h := h.2 z
        refine jr_aload_n (q := 0) C dTe_countBefore_15 rfl rfl ?_
        refine jr_getf (k := 4) C dTe_countBefore_16 inw_Te (rfl : kC[2]? = _) (by decide) (List.mem_cons_of_mem _ tm1_73) rfl kA_2 rfl ?_
        refine jr_iload_n (q := 3) C dTe_countBefore_19 rfl rfl ?_
        obtain ⟨h1, h⟩ := h
        refine jr_iald (t0 := 0) C dTe_countBefore_20 kA_11 rfl h1 ?_
        refine jr_aload_n (q := 0) C dTe_countBefore_21 rfl rfl ?_
        refine jr_getf (k := 4) C dTe_countBefore_22 inw_Te (rfl : kC[2]? = _) (by decide) (List.mem_cons_of_mem _ tm1_73) rfl kA_2 rfl ?_
        refine jr_iload_n (q := 1) C dTe_countBefore_25 rfl rfl ?_
        obtain ⟨h2, h⟩ := h
        refine jr_iald (t0 := 0) C dTe_countBefore_26 kA_11 rfl h2 ?_
        refine jr_icmp_ne (tgt := 39) C dTe_countBefore_27 (by decide) (fun z => ?_) (fun z => ?_)
        · have h := h.1 z
          refine jr_iconst (v := 0) C dTe_countBefore_39 (by decide) ?_
          refine jr_istore (lv' := [(4, .int (0 : Int32)), (0, .ref (ad 2)), (1, .int x1), (2, .int x2), (3, .int x3)]) C dTe_countBefore_40 (by decide) rfl ?_
          refine jr_aload_n (q := 1) C dTe_countBefore_42 rfl rfl ?_
          refine jr_getf (k := 4) C dTe_countBefore_43 inw_Te (rfl : kC[2]? = _) (by decide) (List.mem_cons_of_mem _ tm1_73) rfl kA_2 rfl ?_
          refine jr_iload_n (q := 4) C dTe_countBefore_46 rfl rfl ?_
          obtain ⟨h3, h⟩ := h
          refine jr_iald (t0 := 0) C dTe_countBefore_47 kA_11 rfl h3 ?_
          refine jr_aload_n (q := 1) C dTe_countBefore_48 rfl rfl ?_
          refine jr_getf (k := 4) C dTe_countBefore_49 inw_Te (rfl : kC[2]? = _) (by decide) (List.mem_cons_of_mem _ tm1_73) rfl kA_2 rfl ?_
          refine jr_iload_n (q := 2) C dTe_countBefore_52 rfl rfl ?_
          obtain ⟨h4, h⟩ := h
          refine jr_iald (t0 := 0) C dTe_countBefore_53 kA_11 rfl h4 ?_
          refine jr_icmp_gt (tgt := 62) C dTe_countBefore_54 (by decide) (fun z => ?_) (fun z => ?_)
          · have h := h.1 z
            refine jr_iinc (q := 3) (v := (x2 + (1 : Int32))) (lv' := [(2, .int (x2 + (1 : Int32))), (4, .int (0 : Int32)), (0, .ref (ad 2)), (1, .int x1), (3, .int x3)]) C dTe_countBefore_62 rfl rfl (by decide) rfl ?_
            refine jr_iinc (q := 4) (v := (x3 + (1 : Int32))) (lv' := [(3, .int (x3 + (1 : Int32))), (2, .int (x2 + (1 : Int32))), (4, .int (0 : Int32)), (0, .ref (ad 2)), (1, .int x1)]) C dTe_countBefore_65 rfl rfl (by decide) rfl ?_
            refine jr_goto (tgt := 4) C dTe_countBefore_68 (by decide) ?_
            refine jr_lv (lv' := [(0, .ref (ad 2)), (1, .int x1), (2, .int (x2 + (1 : Int32))), (3, .int (x3 + (1 : Int32)))]) [3, 4, 1, 0] rfl ?_
            exact ih st x1 (x2 + (1 : Int32)) (x3 + (1 : Int32)) h
          · have h := h.2 z
            refine jr_iload (q := 0) C dTe_countBefore_57 rfl ?_
            refine jr_if_eq (tgt := 65) C dTe_countBefore_59 (by decide) (fun z => ?_) (fun z => ?_)
            · have h := h.1 z
              refine jr_iinc (q := 4) (v := (x3 + (1 : Int32))) (lv' := [(3, .int (x3 + (1 : Int32))), (4, .int (0 : Int32)), (0, .ref (ad 2)), (1, .int x1), (2, .int x2)]) C dTe_countBefore_65 rfl rfl (by decide) rfl ?_
              refine jr_goto (tgt := 4) C dTe_countBefore_68 (by decide) ?_
              refine jr_lv (lv' := [(0, .ref (ad 2)), (1, .int x1), (2, .int x2), (3, .int (x3 + (1 : Int32)))]) [2, 3, 4, 0] rfl ?_
              exact ih st x1 x2 (x3 + (1 : Int32)) h
            · have h := h.2 z
              refine jr_iinc (q := 3) (v := (x2 + (1 : Int32))) (lv' := [(2, .int (x2 + (1 : Int32))), (4, .int (0 : Int32)), (0, .ref (ad 2)), (1, .int x1), (3, .int x3)]) C dTe_countBefore_62 rfl rfl (by decide) rfl ?_
              refine jr_iinc (q := 4) (v := (x3 + (1 : Int32))) (lv' := [(3, .int (x3 + (1 : Int32))), (2, .int (x2 + (1 : Int32))), (4, .int (0 : Int32)), (0, .ref (ad 2)), (1, .int x1)]) C dTe_countBefore_65 rfl rfl (by decide) rfl ?_
              refine jr_goto (tgt := 4) C dTe_countBefore_68 (by decide) ?_
              refine jr_lv (lv' := [(0, .ref (ad 2)), (1, .int x1), (2, .int (x2 + (1 : Int32))), (3, .int (x3 + (1 : Int32)))]) [3, 4, 1, 0] rfl ?_
              exact ih st x1 (x2 + (1 : Int32)) (x3 + (1 : Int32)) h
        · have h := h.2 z
          refine jr_iload_n (q := 3) C dTe_countBefore_30 rfl rfl ?_
          refine jr_iload_n (q := 1) C dTe_countBefore_31 rfl rfl ?_
          refine jr_icmp_ge (tgt := 39) C dTe_countBefore_32 (by decide) (fun z => ?_) (fun z => ?_)
          · have h := h.1 z
            refine jr_iconst (v := 0) C dTe_countBefore_39 (by decide) ?_
            refine jr_istore (lv' := [(4, .int (0 : Int32)), (0, .ref (ad 2)), (1, .int x1), (2, .int x2), (3, .int x3)]) C dTe_countBefore_40 (by decide) rfl ?_
            refine jr_aload_n (q := 1) C dTe_countBefore_42 rfl rfl ?_
            refine jr_getf (k := 4) C dTe_countBefore_43 inw_Te (rfl : kC[2]? = _) (by decide) (List.mem_cons_of_mem _ tm1_73) rfl kA_2 rfl ?_
            refine jr_iload_n (q := 4) C dTe_countBefore_46 rfl rfl ?_
            obtain ⟨h5, h⟩ := h
            refine jr_iald (t0 := 0) C dTe_countBefore_47 kA_11 rfl h5 ?_
            refine jr_aload_n (q := 1) C dTe_countBefore_48 rfl rfl ?_
            refine jr_getf (k := 4) C dTe_countBefore_49 inw_Te (rfl : kC[2]? = _) (by decide) (List.mem_cons_of_mem _ tm1_73) rfl kA_2 rfl ?_
            refine jr_iload_n (q := 2) C dTe_countBefore_52 rfl rfl ?_
            obtain ⟨h6, h⟩ := h
            refine jr_iald (t0 := 0) C dTe_countBefore_53 kA_11 rfl h6 ?_
            refine jr_icmp_gt (tgt := 62) C dTe_countBefore_54 (by decide) (fun z => ?_) (fun z => ?_)
            · have h := h.1 z
              refine jr_iinc (q := 3) (v := (x2 + (1 : Int32))) (lv' := [(2, .int (x2 + (1 : Int32))), (4, .int (0 : Int32)), (0, .ref (ad 2)), (1, .int x1), (3, .int x3)]) C dTe_countBefore_62 rfl rfl (by decide) rfl ?_
              refine jr_iinc (q := 4) (v := (x3 + (1 : Int32))) (lv' := [(3, .int (x3 + (1 : Int32))), (2, .int (x2 + (1 : Int32))), (4, .int (0 : Int32)), (0, .ref (ad 2)), (1, .int x1)]) C dTe_countBefore_65 rfl rfl (by decide) rfl ?_
              refine jr_goto (tgt := 4) C dTe_countBefore_68 (by decide) ?_
              refine jr_lv (lv' := [(0, .ref (ad 2)), (1, .int x1), (2, .int (x2 + (1 : Int32))), (3, .int (x3 + (1 : Int32)))]) [3, 4, 1, 0] rfl ?_
              exact ih st x1 (x2 + (1 : Int32)) (x3 + (1 : Int32)) h
            · have h := h.2 z
              refine jr_iload (q := 0) C dTe_countBefore_57 rfl ?_
              refine jr_if_eq (tgt := 65) C dTe_countBefore_59 (by decide) (fun z => ?_) (fun z => ?_)
              · have h := h.1 z
                refine jr_iinc (q := 4) (v := (x3 + (1 : Int32))) (lv' := [(3, .int (x3 + (1 : Int32))), (4, .int (0 : Int32)), (0, .ref (ad 2)), (1, .int x1), (2, .int x2)]) C dTe_countBefore_65 rfl rfl (by decide) rfl ?_
                refine jr_goto (tgt := 4) C dTe_countBefore_68 (by decide) ?_
                refine jr_lv (lv' := [(0, .ref (ad 2)), (1, .int x1), (2, .int x2), (3, .int (x3 + (1 : Int32)))]) [2, 3, 4, 0] rfl ?_
                exact ih st x1 x2 (x3 + (1 : Int32)) h
              · have h := h.2 z
                refine jr_iinc (q := 3) (v := (x2 + (1 : Int32))) (lv' := [(2, .int (x2 + (1 : Int32))), (4, .int (0 : Int32)), (0, .ref (ad 2)), (1, .int x1), (3, .int x3)]) C dTe_countBefore_62 rfl rfl (by decide) rfl ?_
                refine jr_iinc (q := 4) (v := (x3 + (1 : Int32))) (lv' := [(3, .int (x3 + (1 : Int32))), (2, .int (x2 + (1 : Int32))), (4, .int (0 : Int32)), (0, .ref (ad 2)), (1, .int x1)]) C dTe_countBefore_65 rfl rfl (by decide) rfl ?_
                refine jr_goto (tgt := 4) C dTe_countBefore_68 (by decide) ?_
                refine jr_lv (lv' := [(0, .ref (ad 2)), (1, .int x1), (2, .int (x2 + (1 : Int32))), (3, .int (x3 + (1 : Int32)))]) [3, 4, 1, 0] rfl ?_
                exact ih st x1 (x2 + (1 : Int32)) (x3 + (1 : Int32)) h
          · have h := h.2 z
            refine jr_iconst (v := 1) C dTe_countBefore_35 (by decide) ?_
            refine jr_goto (tgt := 40) C dTe_countBefore_36 (by decide) ?_
            refine jr_istore (lv' := [(4, .int (1 : Int32)), (0, .ref (ad 2)), (1, .int x1), (2, .int x2), (3, .int x3)]) C dTe_countBefore_40 (by decide) rfl ?_
            refine jr_aload_n (q := 1) C dTe_countBefore_42 rfl rfl ?_
            refine jr_getf (k := 4) C dTe_countBefore_43 inw_Te (rfl : kC[2]? = _) (by decide) (List.mem_cons_of_mem _ tm1_73) rfl kA_2 rfl ?_
            refine jr_iload_n (q := 4) C dTe_countBefore_46 rfl rfl ?_
            obtain ⟨h7, h⟩ := h
            refine jr_iald (t0 := 0) C dTe_countBefore_47 kA_11 rfl h7 ?_
            refine jr_aload_n (q := 1) C dTe_countBefore_48 rfl rfl ?_
            refine jr_getf (k := 4) C dTe_countBefore_49 inw_Te (rfl : kC[2]? = _) (by decide) (List.mem_cons_of_mem _ tm1_73) rfl kA_2 rfl ?_
            refine jr_iload_n (q := 2) C dTe_countBefore_52 rfl rfl ?_
            obtain ⟨h8, h⟩ := h
            refine jr_iald (t0 := 0) C dTe_countBefore_53 kA_11 rfl h8 ?_
            refine jr_icmp_gt (tgt := 62) C dTe_countBefore_54 (by decide) (fun z => ?_) (fun z => ?_)
            · have h := h.1 z
              refine jr_iinc (q := 3) (v := (x2 + (1 : Int32))) (lv' := [(2, .int (x2 + (1 : Int32))), (4, .int (1 : Int32)), (0, .ref (ad 2)), (1, .int x1), (3, .int x3)]) C dTe_countBefore_62 rfl rfl (by decide) rfl ?_
              refine jr_iinc (q := 4) (v := (x3 + (1 : Int32))) (lv' := [(3, .int (x3 + (1 : Int32))), (2, .int (x2 + (1 : Int32))), (4, .int (1 : Int32)), (0, .ref (ad 2)), (1, .int x1)]) C dTe_countBefore_65 rfl rfl (by decide) rfl ?_
              refine jr_goto (tgt := 4) C dTe_countBefore_68 (by decide) ?_
              refine jr_lv (lv' := [(0, .ref (ad 2)), (1, .int x1), (2, .int (x2 + (1 : Int32))), (3, .int (x3 + (1 : Int32)))]) [3, 4, 1, 0] rfl ?_
              exact ih st x1 (x2 + (1 : Int32)) (x3 + (1 : Int32)) h
            · have h := h.2 z
              refine jr_iload (q := 0) C dTe_countBefore_57 rfl ?_
              refine jr_if_eq (tgt := 65) C dTe_countBefore_59 (by decide) (fun z => ?_) (fun z => ?_)
              · have h := h.1 z
                refine jr_iinc (q := 4) (v := (x3 + (1 : Int32))) (lv' := [(3, .int (x3 + (1 : Int32))), (4, .int (1 : Int32)), (0, .ref (ad 2)), (1, .int x1), (2, .int x2)]) C dTe_countBefore_65 rfl rfl (by decide) rfl ?_
                refine jr_goto (tgt := 4) C dTe_countBefore_68 (by decide) ?_
                refine jr_lv (lv' := [(0, .ref (ad 2)), (1, .int x1), (2, .int x2), (3, .int (x3 + (1 : Int32)))]) [2, 3, 4, 0] rfl ?_
                exact ih st x1 x2 (x3 + (1 : Int32)) h
              · have h := h.2 z
                refine jr_iinc (q := 3) (v := (x2 + (1 : Int32))) (lv' := [(2, .int (x2 + (1 : Int32))), (4, .int (1 : Int32)), (0, .ref (ad 2)), (1, .int x1), (3, .int x3)]) C dTe_countBefore_62 rfl rfl (by decide) rfl ?_
                refine jr_iinc (q := 4) (v := (x3 + (1 : Int32))) (lv' := [(3, .int (x3 + (1 : Int32))), (2, .int (x2 + (1 : Int32))), (4, .int (1 : Int32)), (0, .ref (ad 2)), (1, .int x1)]) C dTe_countBefore_65 rfl rfl (by decide) rfl ?_
                refine jr_goto (tgt := 4) C dTe_countBefore_68 (by decide) ?_
                refine jr_lv (lv' := [(0, .ref (ad 2)), (1, .int x1), (2, .int (x2 + (1 : Int32))), (3, .int (x3 + (1 : Int32)))]) [3, 4, 1, 0] rfl ?_
                exact ih st x1 (x2 + (1 : Int32)) (x3 + (1 : Int32)) h
  obtain ⟨n10, h⟩ := h
  refine jr_lv (lv' := [(0, .ref (ad 2)), (1, .int l1), (2, .int (0 : Int32)), (3, .int (0 : Int32))]) [2, 3, 1, 0] rfl ?_
  exact lp9 n10 st l1 (0 : Int32) (0 : Int32) h
def wp_Te_featureAt_32 (K F : Nat) (post : Int32 → jS → Prop) : Nat → jS → Int32 → Int32 → Prop
  | 0 => fun _ _ _ => False
  | n + 1 => fun st x1 x2 => (((st 1 0) ≤ x2 → post (-1 : Int32) st) ∧ (¬ (st 1 0) ≤ x2 → wp_Te_countBefore K F st x2 (fun r2 st1 => ((¬ r2 = x1 → wp_Te_featureAt_32 K F post n st1 x1 (x2 + (1 : Int32))) ∧ (r2 = x1 → post x2 st1)))))
def wp_Te_featureAt_2 (K F : Nat) (post : Int32 → jS → Prop) : Nat → jS → Int32 → Int32 → Prop
  | 0 => fun _ _ _ => False
  | n + 1 => fun st x1 x2 => (((st 1 0) ≤ x2 → (∃ n5, wp_Te_featureAt_32 K F post n5 st x1 (0 : Int32))) ∧ (¬ (st 1 0) ≤ x2 → wp_Te_rightBy K F st x2 (fun r7 st6 => vp_in x2 F ∧ wp_Te_featureAt_2 K F post n (jq st6 11 (Int32.toNatClampNeg x2) r7) x1 (x2 + (1 : Int32)))))
def wp_Te_featureAt (K F : Nat) (st : jS) (l1 : Int32) (post : Int32 → jS → Prop) : Prop :=
  (∃ n11, wp_Te_featureAt_2 K F post n11 st l1 (0 : Int32))
set_option maxRecDepth 100000 in
set_option maxHeartbeats 4000000 in
theorem c_Te_featureAt {st : jS} {l1 : Int32} {post : Int32 → jS → Prop} (h : wp_Te_featureAt K F st l1 post) : jr_Mi l yTe_featureAt wTe_featureAt ({ frames := 5, cells := 0, slots := 0, locals := 123 }) [.ref (ad 2), .int l1] D kC (kT cI cII cL cJ) (kW cI cII cL ad K F fr st) (kW cI cII cL ad K F fr) post := by
  refine jr_ofi (cc := bTe_featureAt) (nL := 3) (lv := [(0, .ref (ad 2)), (1, .int l1)]) (by decide) rfl (Nat.le_of_ble_eq_true rfl) rfl (fun p e s m args below meth c A C hr hlocks => ?_)
  unfold wp_Te_featureAt at h
  refine jr_iconst (v := 0) C dTe_featureAt_0 (by decide) ?_
  refine jr_istore_n (lv' := [(2, .int (0 : Int32)), (0, .ref (ad 2)), (1, .int l1)]) C dTe_featureAt_1 rfl (by decide) rfl ?_
  have lp9 : ∀ (n : Nat) (st : jS) (x1 : Int32) (x2 : Int32), wp_Te_featureAt_2 K F post n st x1 x2 → jr_J p l e (headSpec wTe_featureAt ({ frames := 5, cells := 0, slots := 0, locals := 123 })).room s m args below meth c A D kC 3 0 0 (MQ below (va_Qi post (jr_B D kC (kT cI cII cL cJ) (kW cI cII cL ad K F fr) A) A) args s 0 0 A) (kW cI cII cL ad K F fr st) 2 [(0, .ref (ad 2)), (1, .int x1), (2, .int x2)] [] := by
    intro n
    induction n with
    | zero => intro st x1 x2 h; exact h.elim
    | succ n ih =>
      intro st x1 x2 h
      unfold wp_Te_featureAt_2 at h
      refine jr_iload_n (q := 2) C dTe_featureAt_2 rfl rfl ?_
      refine jr_aload_n (q := 0) C dTe_featureAt_3 rfl rfl ?_
      refine jr_getf (k := 0) C dTe_featureAt_4 inw_Te (rfl : kC[2]? = _) (by decide) (List.mem_cons_of_mem _ tm1_69) rfl kA_2 rfl ?_
      refine jr_getf (k := 0) C dTe_featureAt_7 inw_Ex (rfl : kC[1]? = _) (by decide) (List.mem_cons_of_mem _ tm1_37) rfl kA_1 rfl ?_
      refine jr_icmp_ge (tgt := 30) C dTe_featureAt_10 (by decide) (fun z => ?_) (fun z => ?_)
      · have h := h.1 z
        refine jr_iconst (v := 0) C dTe_featureAt_30 (by decide) ?_
        refine jr_istore_n (lv' := [(2, .int (0 : Int32)), (0, .ref (ad 2)), (1, .int x1)]) C dTe_featureAt_31 rfl (by decide) rfl ?_
        have lp3 : ∀ (n : Nat) (st : jS) (x1 : Int32) (x2 : Int32), wp_Te_featureAt_32 K F post n st x1 x2 → jr_J p l e (headSpec wTe_featureAt ({ frames := 5, cells := 0, slots := 0, locals := 123 })).room s m args below meth c A D kC 3 0 0 (MQ below (va_Qi post (jr_B D kC (kT cI cII cL cJ) (kW cI cII cL ad K F fr) A) A) args s 0 0 A) (kW cI cII cL ad K F fr st) 32 [(0, .ref (ad 2)), (1, .int x1), (2, .int x2)] [] := by
          intro n
          induction n with
          | zero => intro st x1 x2 h; exact h.elim
          | succ n ih =>
            intro st x1 x2 h
            unfold wp_Te_featureAt_32 at h
            refine jr_iload_n (q := 2) C dTe_featureAt_32 rfl rfl ?_
            refine jr_aload_n (q := 0) C dTe_featureAt_33 rfl rfl ?_
            refine jr_getf (k := 0) C dTe_featureAt_34 inw_Te (rfl : kC[2]? = _) (by decide) (List.mem_cons_of_mem _ tm1_69) rfl kA_2 rfl ?_
            refine jr_getf (k := 0) C dTe_featureAt_37 inw_Ex (rfl : kC[1]? = _) (by decide) (List.mem_cons_of_mem _ tm1_37) rfl kA_1 rfl ?_
            refine jr_icmp_ge (tgt := 60) C dTe_featureAt_40 (by decide) (fun z => ?_) (fun z => ?_)
            · have h := h.1 z
              refine jr_iconst (v := -1) C dTe_featureAt_60 (by decide) ?_
              exact jr_reti C hr hlocks dTe_featureAt_61 h rfl
            · have h := h.2 z
              refine jr_aload_n (q := 0) C dTe_featureAt_43 rfl rfl ?_
              refine jr_iload_n (q := 2) C dTe_featureAt_44 rfl rfl ?_
              refine jr_callVi (As := [.int x2]) (rest := []) C (c_Te_countBefore h) (cwV 1 C.2.2.2.2.1 (tg_V tm2_199 tm2_201 tp_8 tm1_4 tm2_202) rfl rfl rfl ⟨rfl, by decide, by decide, by decide⟩ ⟨Nat.le_of_ble_eq_true rfl, Nat.le_of_ble_eq_true rfl⟩) dTe_featureAt_45 (rfl : kC[2]? = _) kA_2 rfl rfl (Nat.le_of_ble_eq_true rfl) ⟨Nat.le_of_ble_eq_true rfl, Nat.le_of_ble_eq_true rfl⟩ (fun r2 st1 h => ?_)
              refine jr_iload_n (q := 1) C dTe_featureAt_48 rfl rfl ?_
              refine jr_icmp_ne (tgt := 54) C dTe_featureAt_49 (by decide) (fun z => ?_) (fun z => ?_)
              · have h := h.1 z
                refine jr_iinc (q := 2) (v := (x2 + (1 : Int32))) (lv' := [(2, .int (x2 + (1 : Int32))), (0, .ref (ad 2)), (1, .int x1)]) C dTe_featureAt_54 rfl rfl (by decide) rfl ?_
                refine jr_goto (tgt := 32) C dTe_featureAt_57 (by decide) ?_
                refine jr_lv (lv' := [(0, .ref (ad 2)), (1, .int x1), (2, .int (x2 + (1 : Int32)))]) [1, 2, 0] rfl ?_
                exact ih st1 x1 (x2 + (1 : Int32)) h
              · have h := h.2 z
                refine jr_iload_n (q := 2) C dTe_featureAt_52 rfl rfl ?_
                exact jr_reti C hr hlocks dTe_featureAt_53 h rfl
        obtain ⟨n4, h⟩ := h
        refine jr_lv (lv' := [(0, .ref (ad 2)), (1, .int x1), (2, .int (0 : Int32))]) [1, 2, 0] rfl ?_
        exact lp3 n4 st x1 (0 : Int32) h
      · have h := h.2 z
        refine jr_aload_n (q := 0) C dTe_featureAt_13 rfl rfl ?_
        refine jr_getf (k := 4) C dTe_featureAt_14 inw_Te (rfl : kC[2]? = _) (by decide) (List.mem_cons_of_mem _ tm1_73) rfl kA_2 rfl ?_
        refine jr_iload_n (q := 2) C dTe_featureAt_17 rfl rfl ?_
        refine jr_aload_n (q := 0) C dTe_featureAt_18 rfl rfl ?_
        refine jr_iload_n (q := 2) C dTe_featureAt_19 rfl rfl ?_
        refine jr_callVi (As := [.int x2]) (rest := [.int x2, .ref (ad 11)]) C (c_Te_rightBy h) (cwV 1 C.2.2.2.2.1 (tg_V tm2_198 tm2_184 tm2_185 tm1_4 tm2_186) rfl rfl rfl ⟨rfl, by decide, by decide, by decide⟩ ⟨Nat.le_of_ble_eq_true rfl, Nat.le_of_ble_eq_true rfl⟩) dTe_featureAt_20 (rfl : kC[2]? = _) kA_2 rfl rfl (Nat.le_of_ble_eq_true rfl) ⟨Nat.le_of_ble_eq_true rfl, Nat.le_of_ble_eq_true rfl⟩ (fun r7 st6 h => ?_)
        obtain ⟨h8, h⟩ := h
        refine jr_iast (t0 := 0) C dTe_featureAt_23 kA_11 rfl h8 ?_
        refine jr_ws (ws' := kW cI cII cL ad K F fr (jq st6 11 (Int32.toNatClampNeg x2) r7)) (kP_11) ?_
        refine jr_iinc (q := 2) (v := (x2 + (1 : Int32))) (lv' := [(2, .int (x2 + (1 : Int32))), (0, .ref (ad 2)), (1, .int x1)]) C dTe_featureAt_24 rfl rfl (by decide) rfl ?_
        refine jr_goto (tgt := 2) C dTe_featureAt_27 (by decide) ?_
        refine jr_lv (lv' := [(0, .ref (ad 2)), (1, .int x1), (2, .int (x2 + (1 : Int32)))]) [1, 2, 0] rfl ?_
        exact ih (jq st6 11 (Int32.toNatClampNeg x2) r7) x1 (x2 + (1 : Int32)) h
  obtain ⟨n10, h⟩ := h
  refine jr_lv (lv' := [(0, .ref (ad 2)), (1, .int l1), (2, .int (0 : Int32))]) [1, 2, 0] rfl ?_
  exact lp9 n10 st l1 (0 : Int32) h
end KT
