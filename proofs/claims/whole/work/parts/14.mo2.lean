section MO
variable {l : Launch} {D : va_G} {cI cII cL cJ : ClassId} {ad : Nat → Nat} {fr : va_W}
def wp_Mo_votes (st : jS) (l1 : Int32) (l2 : Int32) (post : Int32 → jS → Prop) : Prop :=
  wp_Mo_isExample st l1 (fun r2 st1 => (∃ j3 : jS → Int32 → Prop, (∀ (st6 : jS) (v7 : Int32), j3 st6 v7 → ((((jq st6 0 0 v7) 0 0) ≤ 0 → wp_Mo_votesOf (jq st6 0 0 v7) l1 l2 (0 : Int32) ((jq st6 0 0 v7) 0 2) (fun r9 st8 => post r9 st8)) ∧ (¬ ((jq st6 0 0 v7) 0 0) ≤ 0 → post (0 : Int32) (jq st6 0 0 v7)))) ∧ ((r2 = 0 → j3 st1 (1 : Int32)) ∧ (¬ r2 = 0 → wp_Mo_isKind st1 l2 (fun r5 st4 => ((¬ r5 = 0 → j3 st4 (0 : Int32)) ∧ (r5 = 0 → j3 st4 (1 : Int32))))))))
set_option maxRecDepth 100000 in
set_option maxHeartbeats 4000000 in
theorem c_Mo_votes {st : jS} {l1 : Int32} {l2 : Int32} {post : Int32 → jS → Prop} (h : wp_Mo_votes st l1 l2 post) : jr_Mi l yMo_votes wMo_votes ({ frames := 2, cells := 0, slots := 0, locals := 49 }) [.ref (ad 0), .int l1, .int l2] D kC (kT cI cII cL cJ) (mW cI ad fr st) (mW cI ad fr) post := by
  refine jr_ofi (cc := bMo_votes) (nL := 3) (lv := [(0, .ref (ad 0)), (1, .int l1), (2, .int l2)]) (by decide) rfl (Nat.le_of_ble_eq_true rfl) rfl (fun p e s m args below meth c A C hr hlocks => ?_)
  unfold wp_Mo_votes at h
  refine jr_aload_n (q := 0) C dMo_votes_0 rfl rfl ?_
  refine jr_aload_n (q := 0) C dMo_votes_1 rfl rfl ?_
  refine jr_iload_n (q := 1) C dMo_votes_2 rfl rfl ?_
  refine jr_callVi (As := [.int l1]) (rest := [.ref (ad 0)]) C (c_Mo_isExample h) (cwV 1 C.2.2.2.2.1 (tg_V tm3_200 tm3_202 tp_19 tm1_7 tm3_203) rfl rfl rfl ⟨rfl, by decide, by decide, by decide⟩ ⟨Nat.le_of_ble_eq_true rfl, Nat.le_of_ble_eq_true rfl⟩) dMo_votes_3 (rfl : kC[5]? = _) mA_0 rfl rfl (Nat.le_of_ble_eq_true rfl) ⟨Nat.le_of_ble_eq_true rfl, Nat.le_of_ble_eq_true rfl⟩ (fun r2 st1 h => ?_)
  obtain ⟨j3, j3r, h⟩ := h
  have hj3 : ∀ (st6 : jS) (v7 : Int32), j3 st6 v7 → jr_J p l e (headSpec wMo_votes ({ frames := 2, cells := 0, slots := 0, locals := 49 })).room s m args below meth c A D kC 3 0 0 (MQ below (va_Qi post (jr_B D kC (kT cI cII cL cJ) (mW cI ad fr) A) A) args s 0 0 A) (mW cI ad fr st6) 22 [(0, .ref (ad 0)), (1, .int l1), (2, .int l2)] [.int v7, .ref (ad 0)] := by
    intro st6 v7 h
    have h := j3r st6 v7 h
    refine jr_putf (k := 0) C dMo_votes_22 inw_Mo ty_Mo ty_Mo_ok nm_Mo (rfl : kC[5]? = _) (by decide) (List.mem_cons_of_mem _ tm3_129) rfl rfl (ty := .int) rfl rfl rfl mA_0 (Nat.le_of_ble_eq_true rfl) ?_
    refine jr_ws (ws' := mW cI ad fr (jq st6 0 0 v7)) (mP_0_0) ?_
    refine jr_aload_n (q := 0) C dMo_votes_25 rfl rfl ?_
    refine jr_getf (k := 0) C dMo_votes_26 inw_Mo (rfl : kC[5]? = _) (by decide) (List.mem_cons_of_mem _ tm3_129) rfl mA_0 rfl ?_
    refine jr_if_le (tgt := 36) C dMo_votes_29 (by decide) (fun z => ?_) (fun z => ?_)
    · have h := h.1 z
      refine jr_aload_n (q := 0) C dMo_votes_36 rfl rfl ?_
      refine jr_iload_n (q := 1) C dMo_votes_37 rfl rfl ?_
      refine jr_iload_n (q := 2) C dMo_votes_38 rfl rfl ?_
      refine jr_iconst (v := 0) C dMo_votes_39 (by decide) ?_
      refine jr_aload_n (q := 0) C dMo_votes_40 rfl rfl ?_
      refine jr_getf (k := 2) C dMo_votes_41 inw_Mo (rfl : kC[5]? = _) (by decide) (List.mem_cons_of_mem _ tm3_131) rfl mA_0 rfl ?_
      refine jr_callVi (As := [.int l1, .int l2, .int (0 : Int32), .int ((jq st6 0 0 v7) 0 2)]) (rest := []) C (c_Mo_votesOf h) (cwV 4 C.2.2.2.2.1 (tg_V tm3_228 tm3_230 tp_22 tm1_7 tm3_231) rfl rfl rfl ⟨rfl, by decide, by decide, by decide⟩ ⟨Nat.le_of_ble_eq_true rfl, Nat.le_of_ble_eq_true rfl⟩) dMo_votes_44 (rfl : kC[5]? = _) mA_0 rfl rfl (Nat.le_of_ble_eq_true rfl) ⟨Nat.le_of_ble_eq_true rfl, Nat.le_of_ble_eq_true rfl⟩ (fun r9 st8 h => ?_)
      exact jr_reti C hr hlocks dMo_votes_47 h rfl
    · have h := h.2 z
      refine jr_iconst (v := 0) C dMo_votes_32 (by decide) ?_
      refine jr_goto (tgt := 47) C dMo_votes_33 (by decide) ?_
      exact jr_reti C hr hlocks dMo_votes_47 h rfl
  refine jr_if_eq (tgt := 17) C dMo_votes_6 (by decide) (fun z => ?_) (fun z => ?_)
  · have h := h.1 z
    refine jr_iconst (v := 1) C dMo_votes_17 (by decide) ?_
    refine jr_goto (tgt := 22) C dMo_votes_18 (by decide) ?_
    refine jr_lv (lv' := [(0, .ref (ad 0)), (1, .int l1), (2, .int l2)]) [0, 1, 2] rfl ?_
    exact hj3 st1 (1 : Int32) h
  · have h := h.2 z
    refine jr_aload_n (q := 0) C dMo_votes_9 rfl rfl ?_
    refine jr_iload_n (q := 2) C dMo_votes_10 rfl rfl ?_
    refine jr_callVi (As := [.int l2]) (rest := [.ref (ad 0)]) C (c_Mo_isKind h) (cwV 1 C.2.2.2.2.1 (tg_V tm3_189 tm3_191 tp_18 tm1_7 tm3_192) rfl rfl rfl ⟨rfl, by decide, by decide, by decide⟩ ⟨Nat.le_of_ble_eq_true rfl, Nat.le_of_ble_eq_true rfl⟩) dMo_votes_11 (rfl : kC[5]? = _) mA_0 rfl rfl (Nat.le_of_ble_eq_true rfl) ⟨Nat.le_of_ble_eq_true rfl, Nat.le_of_ble_eq_true rfl⟩ (fun r5 st4 h => ?_)
    refine jr_if_ne (tgt := 21) C dMo_votes_14 (by decide) (fun z => ?_) (fun z => ?_)
    · have h := h.1 z
      refine jr_iconst (v := 0) C dMo_votes_21 (by decide) ?_
      refine jr_lv (lv' := [(0, .ref (ad 0)), (1, .int l1), (2, .int l2)]) [0, 1, 2] rfl ?_
      exact hj3 st4 (0 : Int32) h
    · have h := h.2 z
      refine jr_iconst (v := 1) C dMo_votes_17 (by decide) ?_
      refine jr_goto (tgt := 22) C dMo_votes_18 (by decide) ?_
      refine jr_lv (lv' := [(0, .ref (ad 0)), (1, .int l1), (2, .int l2)]) [0, 1, 2] rfl ?_
      exact hj3 st4 (1 : Int32) h
def wp_Mo_toldBy_9 (post : Int32 → jS → Prop) : Nat → jS → Int32 → Int32 → Int32 → Int32 → Int32 → Int32 → Prop
  | 0 => fun _ _ _ _ _ _ _ => False
  | n + 1 => fun st x1 x2 x3 x4 x5 x6 => (((st 0 1) ≤ x6 → (((st 0 8) ≤ x5 → post x4 st) ∧ (¬ (st 0 8) ≤ x5 → post (-1 : Int32) st))) ∧ (¬ (st 0 1) ≤ x6 → vp_in x6 6 ∧ wp_Mo_votesOf st x1 (st 4 (Int32.toNatClampNeg x6)) x2 x3 (fun r3 st2 => (∃ j4 : Int32 → Prop, (∀ (v6 : Int32), j4 v6 → ((r3 ≤ x5 → wp_Mo_toldBy_9 post n st2 x1 x2 x3 v6 x5 (x6 + (1 : Int32))) ∧ (¬ r3 ≤ x5 → wp_Mo_toldBy_9 post n st2 x1 x2 x3 v6 r3 (x6 + (1 : Int32))))) ∧ ((r3 ≤ x5 → j4 x4) ∧ (¬ r3 ≤ x5 → vp_in x6 6 ∧ j4 (st2 4 (Int32.toNatClampNeg x6))))))))
def wp_Mo_toldBy (st : jS) (l1 : Int32) (l2 : Int32) (l3 : Int32) (post : Int32 → jS → Prop) : Prop :=
  (∃ n9, wp_Mo_toldBy_9 post n9 st l1 l2 l3 (-1 : Int32) (-1 : Int32) (0 : Int32))
set_option maxRecDepth 100000 in
set_option maxHeartbeats 4000000 in
theorem c_Mo_toldBy {st : jS} {l1 : Int32} {l2 : Int32} {l3 : Int32} {post : Int32 → jS → Prop} (h : wp_Mo_toldBy st l1 l2 l3 post) : jr_Mi l yMo_toldBy wMo_toldBy ({ frames := 2, cells := 0, slots := 0, locals := 49 }) [.ref (ad 0), .int l1, .int l2, .int l3] D kC (kT cI cII cL cJ) (mW cI ad fr st) (mW cI ad fr) post := by
  refine jr_ofi (cc := bMo_toldBy) (nL := 8) (lv := [(0, .ref (ad 0)), (1, .int l1), (2, .int l2), (3, .int l3)]) (by decide) rfl (Nat.le_of_ble_eq_true rfl) rfl (fun p e s m args below meth c A C hr hlocks => ?_)
  unfold wp_Mo_toldBy at h
  refine jr_iconst (v := -1) C dMo_toldBy_0 (by decide) ?_
  refine jr_istore (lv' := [(4, .int (-1 : Int32)), (0, .ref (ad 0)), (1, .int l1), (2, .int l2), (3, .int l3)]) C dMo_toldBy_1 (by decide) rfl ?_
  refine jr_iconst (v := -1) C dMo_toldBy_3 (by decide) ?_
  refine jr_istore (lv' := [(5, .int (-1 : Int32)), (4, .int (-1 : Int32)), (0, .ref (ad 0)), (1, .int l1), (2, .int l2), (3, .int l3)]) C dMo_toldBy_4 (by decide) rfl ?_
  refine jr_iconst (v := 0) C dMo_toldBy_6 (by decide) ?_
  refine jr_istore (lv' := [(6, .int (0 : Int32)), (5, .int (-1 : Int32)), (4, .int (-1 : Int32)), (0, .ref (ad 0)), (1, .int l1), (2, .int l2), (3, .int l3)]) C dMo_toldBy_7 (by decide) rfl ?_
  have lp7 : ∀ (n : Nat) (st : jS) (x1 : Int32) (x2 : Int32) (x3 : Int32) (x4 : Int32) (x5 : Int32) (x6 : Int32), wp_Mo_toldBy_9 post n st x1 x2 x3 x4 x5 x6 → jr_J p l e (headSpec wMo_toldBy ({ frames := 2, cells := 0, slots := 0, locals := 49 })).room s m args below meth c A D kC 8 0 0 (MQ below (va_Qi post (jr_B D kC (kT cI cII cL cJ) (mW cI ad fr) A) A) args s 0 0 A) (mW cI ad fr st) 9 [(0, .ref (ad 0)), (1, .int x1), (2, .int x2), (3, .int x3), (4, .int x4), (5, .int x5), (6, .int x6)] [] := by
    intro n
    induction n with
    | zero => intro st x1 x2 x3 x4 x5 x6 h; exact h.elim
    | succ n ih =>
      intro st x1 x2 x3 x4 x5 x6 h
      unfold wp_Mo_toldBy_9 at h
      refine jr_iload (q := 6) C dMo_toldBy_9 rfl ?_
      refine jr_aload_n (q := 0) C dMo_toldBy_11 rfl rfl ?_
      refine jr_getf (k := 1) C dMo_toldBy_12 inw_Mo (rfl : kC[5]? = _) (by decide) (List.mem_cons_of_mem _ tm3_130) rfl mA_0 rfl ?_
      refine jr_icmp_ge (tgt := 77) C dMo_toldBy_15 (by decide) (fun z => ?_) (fun z => ?_)
      · have h := h.1 z
        refine jr_iload (q := 5) C dMo_toldBy_77 rfl ?_
        refine jr_aload_n (q := 0) C dMo_toldBy_79 rfl rfl ?_
        refine jr_getf (k := 8) C dMo_toldBy_80 inw_Mo (rfl : kC[5]? = _) (by decide) (List.mem_cons_of_mem _ tm3_137) rfl mA_0 rfl ?_
        refine jr_icmp_ge (tgt := 90) C dMo_toldBy_83 (by decide) (fun z => ?_) (fun z => ?_)
        · have h := h.1 z
          refine jr_iload (q := 4) C dMo_toldBy_90 rfl ?_
          exact jr_reti C hr hlocks dMo_toldBy_92 h rfl
        · have h := h.2 z
          refine jr_iconst (v := -1) C dMo_toldBy_86 (by decide) ?_
          refine jr_goto (tgt := 92) C dMo_toldBy_87 (by decide) ?_
          exact jr_reti C hr hlocks dMo_toldBy_92 h rfl
      · have h := h.2 z
        refine jr_aload_n (q := 0) C dMo_toldBy_18 rfl rfl ?_
        refine jr_iload_n (q := 1) C dMo_toldBy_19 rfl rfl ?_
        refine jr_aload_n (q := 0) C dMo_toldBy_20 rfl rfl ?_
        refine jr_getf (k := 7) C dMo_toldBy_21 inw_Mo (rfl : kC[5]? = _) (by decide) (List.mem_cons_of_mem _ tm3_136) rfl mA_0 rfl ?_
        refine jr_iload (q := 6) C dMo_toldBy_24 rfl ?_
        obtain ⟨h1, h⟩ := h
        refine jr_iald (t0 := 0) C dMo_toldBy_26 mA_4 rfl h1 ?_
        refine jr_iload_n (q := 2) C dMo_toldBy_27 rfl rfl ?_
        refine jr_iload_n (q := 3) C dMo_toldBy_28 rfl rfl ?_
        refine jr_callVi (As := [.int x1, .int (st 4 (Int32.toNatClampNeg x6)), .int x2, .int x3]) (rest := []) C (c_Mo_votesOf h) (cwV 4 C.2.2.2.2.1 (tg_V tm3_228 tm3_230 tp_22 tm1_7 tm3_231) rfl rfl rfl ⟨rfl, by decide, by decide, by decide⟩ ⟨Nat.le_of_ble_eq_true rfl, Nat.le_of_ble_eq_true rfl⟩) dMo_toldBy_29 (rfl : kC[5]? = _) mA_0 rfl rfl (Nat.le_of_ble_eq_true rfl) ⟨Nat.le_of_ble_eq_true rfl, Nat.le_of_ble_eq_true rfl⟩ (fun r3 st2 h => ?_)
        refine jr_istore (lv' := [(7, .int r3), (0, .ref (ad 0)), (1, .int x1), (2, .int x2), (3, .int x3), (4, .int x4), (5, .int x5), (6, .int x6)]) C dMo_toldBy_32 (by decide) rfl ?_
        refine jr_iload (q := 0) C dMo_toldBy_34 rfl ?_
        refine jr_iload (q := 6) C dMo_toldBy_36 rfl ?_
        obtain ⟨j4, j4r, h⟩ := h
        have hj4 : ∀ (v6 : Int32), j4 v6 → jr_J p l e (headSpec wMo_toldBy ({ frames := 2, cells := 0, slots := 0, locals := 49 })).room s m args below meth c A D kC 8 0 0 (MQ below (va_Qi post (jr_B D kC (kT cI cII cL cJ) (mW cI ad fr) A) A) args s 0 0 A) (mW cI ad fr st2) 53 [(0, .ref (ad 0)), (1, .int x1), (2, .int x2), (3, .int x3), (4, .int x4), (5, .int x5), (6, .int x6), (7, .int r3)] [.int v6] := by
          intro v6 h
          have h := j4r v6 h
          refine jr_istore (lv' := [(4, .int v6), (0, .ref (ad 0)), (1, .int x1), (2, .int x2), (3, .int x3), (5, .int x5), (6, .int x6), (7, .int r3)]) C dMo_toldBy_53 (by decide) rfl ?_
          refine jr_iload (q := 7) C dMo_toldBy_55 rfl ?_
          refine jr_iload (q := 5) C dMo_toldBy_57 rfl ?_
          refine jr_icmp_le (tgt := 67) C dMo_toldBy_59 (by decide) (fun z => ?_) (fun z => ?_)
          · have h := h.1 z
            refine jr_iload (q := 5) C dMo_toldBy_67 rfl ?_
            refine jr_istore (lv' := [(5, .int x5), (4, .int v6), (0, .ref (ad 0)), (1, .int x1), (2, .int x2), (3, .int x3), (6, .int x6), (7, .int r3)]) C dMo_toldBy_69 (by decide) rfl ?_
            refine jr_iinc (q := 6) (v := (x6 + (1 : Int32))) (lv' := [(6, .int (x6 + (1 : Int32))), (5, .int x5), (4, .int v6), (0, .ref (ad 0)), (1, .int x1), (2, .int x2), (3, .int x3), (7, .int r3)]) C dMo_toldBy_71 rfl rfl (by decide) rfl ?_
            refine jr_goto (tgt := 9) C dMo_toldBy_74 (by decide) ?_
            refine jr_lv (lv' := [(0, .ref (ad 0)), (1, .int x1), (2, .int x2), (3, .int x3), (4, .int v6), (5, .int x5), (6, .int (x6 + (1 : Int32)))]) [3, 4, 5, 6, 2, 1, 0] rfl ?_
            exact ih st2 x1 x2 x3 v6 x5 (x6 + (1 : Int32)) h
          · have h := h.2 z
            refine jr_iload (q := 7) C dMo_toldBy_62 rfl ?_
            refine jr_goto (tgt := 69) C dMo_toldBy_64 (by decide) ?_
            refine jr_istore (lv' := [(5, .int r3), (4, .int v6), (0, .ref (ad 0)), (1, .int x1), (2, .int x2), (3, .int x3), (6, .int x6), (7, .int r3)]) C dMo_toldBy_69 (by decide) rfl ?_
            refine jr_iinc (q := 6) (v := (x6 + (1 : Int32))) (lv' := [(6, .int (x6 + (1 : Int32))), (5, .int r3), (4, .int v6), (0, .ref (ad 0)), (1, .int x1), (2, .int x2), (3, .int x3), (7, .int r3)]) C dMo_toldBy_71 rfl rfl (by decide) rfl ?_
            refine jr_goto (tgt := 9) C dMo_toldBy_74 (by decide) ?_
            refine jr_lv (lv' := [(0, .ref (ad 0)), (1, .int x1), (2, .int x2), (3, .int x3), (4, .int v6), (5, .int r3), (6, .int (x6 + (1 : Int32)))]) [3, 4, 5, 6, 2, 1, 0] rfl ?_
            exact ih st2 x1 x2 x3 v6 r3 (x6 + (1 : Int32)) h
        refine jr_icmp_le (tgt := 51) C dMo_toldBy_38 (by decide) (fun z => ?_) (fun z => ?_)
        · have h := h.1 z
          refine jr_iload (q := 5) C dMo_toldBy_51 rfl ?_
          refine jr_lv (lv' := [(0, .ref (ad 0)), (1, .int x1), (2, .int x2), (3, .int x3), (4, .int x4), (5, .int x5), (6, .int x6), (7, .int r3)]) [1, 2, 3, 4, 5, 6, 7, 0] rfl ?_
          exact hj4 x4 h
        · have h := h.2 z
          refine jr_aload_n (q := 1) C dMo_toldBy_41 rfl rfl ?_
          refine jr_getf (k := 7) C dMo_toldBy_42 inw_Mo (rfl : kC[5]? = _) (by decide) (List.mem_cons_of_mem _ tm3_136) rfl mA_0 rfl ?_
          refine jr_iload (q := 7) C dMo_toldBy_45 rfl ?_
          obtain ⟨h5, h⟩ := h
          refine jr_iald (t0 := 0) C dMo_toldBy_47 mA_4 rfl h5 ?_
          refine jr_goto (tgt := 53) C dMo_toldBy_48 (by decide) ?_
          refine jr_lv (lv' := [(0, .ref (ad 0)), (1, .int x1), (2, .int x2), (3, .int x3), (4, .int x4), (5, .int x5), (6, .int x6), (7, .int r3)]) [1, 2, 3, 4, 5, 6, 7, 0] rfl ?_
          exact hj4 (st2 4 (Int32.toNatClampNeg x6)) h
  obtain ⟨n8, h⟩ := h
  refine jr_lv (lv' := [(0, .ref (ad 0)), (1, .int l1), (2, .int l2), (3, .int l3), (4, .int (-1 : Int32)), (5, .int (-1 : Int32)), (6, .int (0 : Int32))]) [3, 4, 5, 6, 2, 1, 0] rfl ?_
  exact lp7 n8 st l1 l2 l3 (-1 : Int32) (-1 : Int32) (0 : Int32) h
def wp_Mo_tell (st : jS) (l1 : Int32) (post : Int32 → jS → Prop) : Prop :=
  wp_Mo_isExample st l1 (fun r2 st1 => (∃ j3 : Int32 → Prop, (∀ (v4 : Int32), j3 v4 → ((((jq st1 0 0 v4) 0 0) ≤ 0 → wp_Mo_toldBy (jq st1 0 0 v4) l1 (0 : Int32) ((jq st1 0 0 v4) 0 2) (fun r6 st5 => post r6 st5)) ∧ (¬ ((jq st1 0 0 v4) 0 0) ≤ 0 → post (0 : Int32) (jq st1 0 0 v4)))) ∧ ((¬ r2 = 0 → j3 (0 : Int32)) ∧ (r2 = 0 → j3 (1 : Int32)))))
set_option maxRecDepth 100000 in
set_option maxHeartbeats 4000000 in
theorem c_Mo_tell {st : jS} {l1 : Int32} {post : Int32 → jS → Prop} (h : wp_Mo_tell st l1 post) : jr_Mi l yMo_tell wMo_tell ({ frames := 3, cells := 0, slots := 0, locals := 76 }) [.ref (ad 0), .int l1] D kC (kT cI cII cL cJ) (mW cI ad fr st) (mW cI ad fr) post := by
  refine jr_ofi (cc := bMo_tell) (nL := 2) (lv := [(0, .ref (ad 0)), (1, .int l1)]) (by decide) rfl (Nat.le_of_ble_eq_true rfl) rfl (fun p e s m args below meth c A C hr hlocks => ?_)
  unfold wp_Mo_tell at h
  refine jr_aload_n (q := 0) C dMo_tell_0 rfl rfl ?_
  refine jr_aload_n (q := 0) C dMo_tell_1 rfl rfl ?_
  refine jr_iload_n (q := 1) C dMo_tell_2 rfl rfl ?_
  refine jr_callVi (As := [.int l1]) (rest := [.ref (ad 0)]) C (c_Mo_isExample h) (cwV 1 C.2.2.2.2.1 (tg_V tm3_200 tm3_202 tp_19 tm1_7 tm3_203) rfl rfl rfl ⟨rfl, by decide, by decide, by decide⟩ ⟨Nat.le_of_ble_eq_true rfl, Nat.le_of_ble_eq_true rfl⟩) dMo_tell_3 (rfl : kC[5]? = _) mA_0 rfl rfl (Nat.le_of_ble_eq_true rfl) ⟨Nat.le_of_ble_eq_true rfl, Nat.le_of_ble_eq_true rfl⟩ (fun r2 st1 h => ?_)
  obtain ⟨j3, j3r, h⟩ := h
  have hj3 : ∀ (v4 : Int32), j3 v4 → jr_J p l e (headSpec wMo_tell ({ frames := 3, cells := 0, slots := 0, locals := 76 })).room s m args below meth c A D kC 2 0 0 (MQ below (va_Qi post (jr_B D kC (kT cI cII cL cJ) (mW cI ad fr) A) A) args s 0 0 A) (mW cI ad fr st1) 14 [(0, .ref (ad 0)), (1, .int l1)] [.int v4, .ref (ad 0)] := by
    intro v4 h
    have h := j3r v4 h
    refine jr_putf (k := 0) C dMo_tell_14 inw_Mo ty_Mo ty_Mo_ok nm_Mo (rfl : kC[5]? = _) (by decide) (List.mem_cons_of_mem _ tm3_129) rfl rfl (ty := .int) rfl rfl rfl mA_0 (Nat.le_of_ble_eq_true rfl) ?_
    refine jr_ws (ws' := mW cI ad fr (jq st1 0 0 v4)) (mP_0_0) ?_
    refine jr_aload_n (q := 0) C dMo_tell_17 rfl rfl ?_
    refine jr_getf (k := 0) C dMo_tell_18 inw_Mo (rfl : kC[5]? = _) (by decide) (List.mem_cons_of_mem _ tm3_129) rfl mA_0 rfl ?_
    refine jr_if_le (tgt := 28) C dMo_tell_21 (by decide) (fun z => ?_) (fun z => ?_)
    · have h := h.1 z
      refine jr_aload_n (q := 0) C dMo_tell_28 rfl rfl ?_
      refine jr_iload_n (q := 1) C dMo_tell_29 rfl rfl ?_
      refine jr_iconst (v := 0) C dMo_tell_30 (by decide) ?_
      refine jr_aload_n (q := 0) C dMo_tell_31 rfl rfl ?_
      refine jr_getf (k := 2) C dMo_tell_32 inw_Mo (rfl : kC[5]? = _) (by decide) (List.mem_cons_of_mem _ tm3_131) rfl mA_0 rfl ?_
      refine jr_callVi (As := [.int l1, .int (0 : Int32), .int ((jq st1 0 0 v4) 0 2)]) (rest := []) C (c_Mo_toldBy h) (cwV 3 C.2.2.2.2.1 (tg_V tm3_236 tm3_238 tp_23 tm1_7 tm3_239) rfl rfl rfl ⟨rfl, by decide, by decide, by decide⟩ ⟨Nat.le_of_ble_eq_true rfl, Nat.le_of_ble_eq_true rfl⟩) dMo_tell_35 (rfl : kC[5]? = _) mA_0 rfl rfl (Nat.le_of_ble_eq_true rfl) ⟨Nat.le_of_ble_eq_true rfl, Nat.le_of_ble_eq_true rfl⟩ (fun r6 st5 h => ?_)
      exact jr_reti C hr hlocks dMo_tell_38 h rfl
    · have h := h.2 z
      refine jr_iconst (v := 0) C dMo_tell_24 (by decide) ?_
      refine jr_goto (tgt := 38) C dMo_tell_25 (by decide) ?_
      exact jr_reti C hr hlocks dMo_tell_38 h rfl
  refine jr_if_ne (tgt := 13) C dMo_tell_6 (by decide) (fun z => ?_) (fun z => ?_)
  · have h := h.1 z
    refine jr_iconst (v := 0) C dMo_tell_13 (by decide) ?_
    refine jr_lv (lv' := [(0, .ref (ad 0)), (1, .int l1)]) [0, 1] rfl ?_
    exact hj3 (0 : Int32) h
  · have h := h.2 z
    refine jr_iconst (v := 1) C dMo_tell_9 (by decide) ?_
    refine jr_goto (tgt := 14) C dMo_tell_10 (by decide) ?_
    refine jr_lv (lv' := [(0, .ref (ad 0)), (1, .int l1)]) [0, 1] rfl ?_
    exact hj3 (1 : Int32) h
def wp_Mo_bound (st : jS) (l1 : Int32) (post : Int32 → jS → Prop) : Prop :=
  wp_Mo_isIn st l1 (0 : Int32) (1000 : Int32) (fun r2 st1 => (∃ j3 : Int32 → Prop, (∀ (v4 : Int32), j3 v4 → ((((jq st1 0 0 v4) 0 0) ≤ 0 → post ((jq st1 0 0 v4) 0 8) (jq (jq st1 0 0 v4) 0 8 l1)) ∧ (¬ ((jq st1 0 0 v4) 0 0) ≤ 0 → post (0 : Int32) (jq st1 0 0 v4)))) ∧ ((¬ r2 = 0 → j3 (0 : Int32)) ∧ (r2 = 0 → j3 (1 : Int32)))))
set_option maxRecDepth 100000 in
set_option maxHeartbeats 4000000 in
theorem c_Mo_bound {st : jS} {l1 : Int32} {post : Int32 → jS → Prop} (h : wp_Mo_bound st l1 post) : jr_Mi l yMo_bound wMo_bound ({ frames := 1, cells := 0, slots := 0, locals := 22 }) [.ref (ad 0), .int l1] D kC (kT cI cII cL cJ) (mW cI ad fr st) (mW cI ad fr) post := by
  refine jr_ofi (cc := bMo_bound) (nL := 3) (lv := [(0, .ref (ad 0)), (1, .int l1)]) (by decide) rfl (Nat.le_of_ble_eq_true rfl) rfl (fun p e s m args below meth c A C hr hlocks => ?_)
  unfold wp_Mo_bound at h
  refine jr_aload_n (q := 0) C dMo_bound_0 rfl rfl ?_
  refine jr_iload_n (q := 1) C dMo_bound_1 rfl rfl ?_
  refine jr_iconst (v := 0) C dMo_bound_2 (by decide) ?_
  refine jr_sipush (v := 1000) C dMo_bound_3 (by decide) ?_
  refine jr_callSi (As := [.int l1, .int (0 : Int32), .int (1000 : Int32)]) (rest := [.ref (ad 0)]) C (c_Mo_isIn h) (va_cwS 3 C.2.2.2.2.1 (tg_S tm3_193 tm3_194 tm1_7 tm3_195) rfl rfl rfl ⟨by decide, by decide, by decide⟩ ⟨Nat.le_of_ble_eq_true rfl, Nat.le_of_ble_eq_true rfl⟩) dMo_bound_6 rfl rfl (Nat.le_of_ble_eq_true rfl) ⟨Nat.le_of_ble_eq_true rfl, Nat.le_of_ble_eq_true rfl⟩ (fun r2 st1 h => ?_)
  obtain ⟨j3, j3r, h⟩ := h
  have hj3 : ∀ (v4 : Int32), j3 v4 → jr_J p l e (headSpec wMo_bound ({ frames := 1, cells := 0, slots := 0, locals := 22 })).room s m args below meth c A D kC 3 0 0 (MQ below (va_Qi post (jr_B D kC (kT cI cII cL cJ) (mW cI ad fr) A) A) args s 0 0 A) (mW cI ad fr st1) 17 [(0, .ref (ad 0)), (1, .int l1)] [.int v4, .ref (ad 0)] := by
    intro v4 h
    have h := j3r v4 h
    refine jr_putf (k := 0) C dMo_bound_17 inw_Mo ty_Mo ty_Mo_ok nm_Mo (rfl : kC[5]? = _) (by decide) (List.mem_cons_of_mem _ tm3_129) rfl rfl (ty := .int) rfl rfl rfl mA_0 (Nat.le_of_ble_eq_true rfl) ?_
    refine jr_ws (ws' := mW cI ad fr (jq st1 0 0 v4)) (mP_0_0) ?_
    refine jr_aload_n (q := 0) C dMo_bound_20 rfl rfl ?_
    refine jr_getf (k := 0) C dMo_bound_21 inw_Mo (rfl : kC[5]? = _) (by decide) (List.mem_cons_of_mem _ tm3_129) rfl mA_0 rfl ?_
    refine jr_if_le (tgt := 29) C dMo_bound_24 (by decide) (fun z => ?_) (fun z => ?_)
    · have h := h.1 z
      refine jr_aload_n (q := 0) C dMo_bound_29 rfl rfl ?_
      refine jr_getf (k := 8) C dMo_bound_30 inw_Mo (rfl : kC[5]? = _) (by decide) (List.mem_cons_of_mem _ tm3_137) rfl mA_0 rfl ?_
      refine jr_istore_n (lv' := [(2, .int ((jq st1 0 0 v4) 0 8)), (0, .ref (ad 0)), (1, .int l1)]) C dMo_bound_33 rfl (by decide) rfl ?_
      refine jr_aload_n (q := 1) C dMo_bound_34 rfl rfl ?_
      refine jr_iload_n (q := 2) C dMo_bound_35 rfl rfl ?_
      refine jr_putf (k := 8) C dMo_bound_36 inw_Mo ty_Mo ty_Mo_ok nm_Mo (rfl : kC[5]? = _) (by decide) (List.mem_cons_of_mem _ tm3_137) rfl rfl (ty := .int) rfl rfl rfl mA_0 (Nat.le_of_ble_eq_true rfl) ?_
      refine jr_ws (ws' := mW cI ad fr (jq (jq st1 0 0 v4) 0 8 l1)) (mP_0_8) ?_
      refine jr_iload_n (q := 0) C dMo_bound_39 rfl rfl ?_
      exact jr_reti C hr hlocks dMo_bound_40 h rfl
    · have h := h.2 z
      refine jr_iconst (v := 0) C dMo_bound_27 (by decide) ?_
      exact jr_reti C hr hlocks dMo_bound_28 h rfl
  refine jr_if_ne (tgt := 16) C dMo_bound_9 (by decide) (fun z => ?_) (fun z => ?_)
  · have h := h.1 z
    refine jr_iconst (v := 0) C dMo_bound_16 (by decide) ?_
    refine jr_lv (lv' := [(0, .ref (ad 0)), (1, .int l1)]) [0, 1] rfl ?_
    exact hj3 (0 : Int32) h
  · have h := h.2 z
    refine jr_iconst (v := 1) C dMo_bound_12 (by decide) ?_
    refine jr_goto (tgt := 17) C dMo_bound_13 (by decide) ?_
    refine jr_lv (lv' := [(0, .ref (ad 0)), (1, .int l1)]) [0, 1] rfl ?_
    exact hj3 (1 : Int32) h
def wp_Mo_prefer_46 (post : Int32 → jS → Prop) : Nat → jS → Int32 → Int32 → Int32 → Prop
  | 0 => fun _ _ _ _ => False
  | n + 1 => fun st x1 x2 x3 => ((x3 ≤ 0 → vp_in (0 : Int32) 6 ∧ post x2 (jq st 4 (Int32.toNatClampNeg (0 : Int32)) x1)) ∧ (¬ x3 ≤ 0 → vp_in (x3 - (1 : Int32)) 6 ∧ vp_in x3 6 ∧ wp_Mo_prefer_46 post n (jq st 4 (Int32.toNatClampNeg x3) (st 4 (Int32.toNatClampNeg (x3 - (1 : Int32))))) x1 x2 (x3 + (-1 : Int32))))
def wp_Mo_prefer_28 (post : Int32 → jS → Prop) : Nat → jS → Int32 → Int32 → Prop
  | 0 => fun _ _ _ => False
  | n + 1 => fun st x1 x2 => vp_in x2 6 ∧ (((st 4 (Int32.toNatClampNeg x2)) = x1 → (∃ n11, wp_Mo_prefer_46 post n11 st x1 x2 x2)) ∧ (¬ (st 4 (Int32.toNatClampNeg x2)) = x1 → wp_Mo_prefer_28 post n st x1 (x2 + (1 : Int32))))
def wp_Mo_prefer (st : jS) (l1 : Int32) (post : Int32 → jS → Prop) : Prop :=
  wp_Mo_isKind st l1 (fun r2 st1 => (∃ j3 : Int32 → Prop, (∀ (v4 : Int32), j3 v4 → ((((jq st1 0 0 v4) 0 0) ≤ 0 → (∃ n14, wp_Mo_prefer_28 post n14 (jq st1 0 0 v4) l1 (0 : Int32))) ∧ (¬ ((jq st1 0 0 v4) 0 0) ≤ 0 → post (0 : Int32) (jq st1 0 0 v4)))) ∧ ((¬ r2 = 0 → j3 (0 : Int32)) ∧ (r2 = 0 → j3 (1 : Int32)))))
set_option maxRecDepth 100000 in
set_option maxHeartbeats 4000000 in
theorem c_Mo_prefer {st : jS} {l1 : Int32} {post : Int32 → jS → Prop} (h : wp_Mo_prefer st l1 post) : jr_Mi l yMo_prefer wMo_prefer ({ frames := 2, cells := 0, slots := 0, locals := 43 }) [.ref (ad 0), .int l1] D kC (kT cI cII cL cJ) (mW cI ad fr st) (mW cI ad fr) post := by
  refine jr_ofi (cc := bMo_prefer) (nL := 4) (lv := [(0, .ref (ad 0)), (1, .int l1)]) (by decide) rfl (Nat.le_of_ble_eq_true rfl) rfl (fun p e s m args below meth c A C hr hlocks => ?_)
  unfold wp_Mo_prefer at h
  refine jr_aload_n (q := 0) C dMo_prefer_0 rfl rfl ?_
  refine jr_aload_n (q := 0) C dMo_prefer_1 rfl rfl ?_
  refine jr_iload_n (q := 1) C dMo_prefer_2 rfl rfl ?_
  refine jr_callVi (As := [.int l1]) (rest := [.ref (ad 0)]) C (c_Mo_isKind h) (cwV 1 C.2.2.2.2.1 (tg_V tm3_189 tm3_191 tp_18 tm1_7 tm3_192) rfl rfl rfl ⟨rfl, by decide, by decide, by decide⟩ ⟨Nat.le_of_ble_eq_true rfl, Nat.le_of_ble_eq_true rfl⟩) dMo_prefer_3 (rfl : kC[5]? = _) mA_0 rfl rfl (Nat.le_of_ble_eq_true rfl) ⟨Nat.le_of_ble_eq_true rfl, Nat.le_of_ble_eq_true rfl⟩ (fun r2 st1 h => ?_)
  obtain ⟨j3, j3r, h⟩ := h
  have hj3 : ∀ (v4 : Int32), j3 v4 → jr_J p l e (headSpec wMo_prefer ({ frames := 2, cells := 0, slots := 0, locals := 43 })).room s m args below meth c A D kC 4 0 0 (MQ below (va_Qi post (jr_B D kC (kT cI cII cL cJ) (mW cI ad fr) A) A) args s 0 0 A) (mW cI ad fr st1) 14 [(0, .ref (ad 0)), (1, .int l1)] [.int v4, .ref (ad 0)] := by
    intro v4 h
    have h := j3r v4 h
    refine jr_putf (k := 0) C dMo_prefer_14 inw_Mo ty_Mo ty_Mo_ok nm_Mo (rfl : kC[5]? = _) (by decide) (List.mem_cons_of_mem _ tm3_129) rfl rfl (ty := .int) rfl rfl rfl mA_0 (Nat.le_of_ble_eq_true rfl) ?_
    refine jr_ws (ws' := mW cI ad fr (jq st1 0 0 v4)) (mP_0_0) ?_
    refine jr_aload_n (q := 0) C dMo_prefer_17 rfl rfl ?_
    refine jr_getf (k := 0) C dMo_prefer_18 inw_Mo (rfl : kC[5]? = _) (by decide) (List.mem_cons_of_mem _ tm3_129) rfl mA_0 rfl ?_
    refine jr_if_le (tgt := 26) C dMo_prefer_21 (by decide) (fun z => ?_) (fun z => ?_)
    · have h := h.1 z
      refine jr_iconst (v := 0) C dMo_prefer_26 (by decide) ?_
      refine jr_istore_n (lv' := [(2, .int (0 : Int32)), (0, .ref (ad 0)), (1, .int l1)]) C dMo_prefer_27 rfl (by decide) rfl ?_
      have lp12 : ∀ (n : Nat) (st : jS) (x1 : Int32) (x2 : Int32), wp_Mo_prefer_28 post n st x1 x2 → jr_J p l e (headSpec wMo_prefer ({ frames := 2, cells := 0, slots := 0, locals := 43 })).room s m args below meth c A D kC 4 0 0 (MQ below (va_Qi post (jr_B D kC (kT cI cII cL cJ) (mW cI ad fr) A) A) args s 0 0 A) (mW cI ad fr st) 28 [(0, .ref (ad 0)), (1, .int x1), (2, .int x2)] [] := by
        intro n
        induction n with
        | zero => intro st x1 x2 h; exact h.elim
        | succ n ih =>
          intro st x1 x2 h
          unfold wp_Mo_prefer_28 at h
          refine jr_aload_n (q := 0) C dMo_prefer_28 rfl rfl ?_
          refine jr_getf (k := 7) C dMo_prefer_29 inw_Mo (rfl : kC[5]? = _) (by decide) (List.mem_cons_of_mem _ tm3_136) rfl mA_0 rfl ?_
          refine jr_iload_n (q := 2) C dMo_prefer_32 rfl rfl ?_
          obtain ⟨h5, h⟩ := h
          refine jr_iald (t0 := 0) C dMo_prefer_33 mA_4 rfl h5 ?_
          refine jr_iload_n (q := 1) C dMo_prefer_34 rfl rfl ?_
          refine jr_icmp_eq (tgt := 44) C dMo_prefer_35 (by decide) (fun z => ?_) (fun z => ?_)
          · have h := h.1 z
            refine jr_iload_n (q := 2) C dMo_prefer_44 rfl rfl ?_
            refine jr_istore_n (lv' := [(3, .int x2), (0, .ref (ad 0)), (1, .int x1), (2, .int x2)]) C dMo_prefer_45 rfl (by decide) rfl ?_
            have lp9 : ∀ (n : Nat) (st : jS) (x1 : Int32) (x2 : Int32) (x3 : Int32), wp_Mo_prefer_46 post n st x1 x2 x3 → jr_J p l e (headSpec wMo_prefer ({ frames := 2, cells := 0, slots := 0, locals := 43 })).room s m args below meth c A D kC 4 0 0 (MQ below (va_Qi post (jr_B D kC (kT cI cII cL cJ) (mW cI ad fr) A) A) args s 0 0 A) (mW cI ad fr st) 46 [(0, .ref (ad 0)), (1, .int x1), (2, .int x2), (3, .int x3)] [] := by
              intro n
              induction n with
              | zero => intro st x1 x2 x3 h; exact h.elim
              | succ n ih =>
                intro st x1 x2 x3 h
                unfold wp_Mo_prefer_46 at h
                refine jr_iload_n (q := 3) C dMo_prefer_46 rfl rfl ?_
                refine jr_if_le (tgt := 70) C dMo_prefer_47 (by decide) (fun z => ?_) (fun z => ?_)
                · have h := h.1 z
                  refine jr_aload_n (q := 0) C dMo_prefer_70 rfl rfl ?_
                  refine jr_getf (k := 7) C dMo_prefer_71 inw_Mo (rfl : kC[5]? = _) (by decide) (List.mem_cons_of_mem _ tm3_136) rfl mA_0 rfl ?_
                  refine jr_iconst (v := 0) C dMo_prefer_74 (by decide) ?_
                  refine jr_iload_n (q := 1) C dMo_prefer_75 rfl rfl ?_
                  obtain ⟨h6, h⟩ := h
                  refine jr_iast (t0 := 0) C dMo_prefer_76 mA_4 rfl h6 ?_
                  refine jr_ws (ws' := mW cI ad fr (jq st 4 (Int32.toNatClampNeg (0 : Int32)) x1)) (mP_4) ?_
                  refine jr_iload_n (q := 2) C dMo_prefer_77 rfl rfl ?_
                  exact jr_reti C hr hlocks dMo_prefer_78 h rfl
                · have h := h.2 z
                  refine jr_aload_n (q := 0) C dMo_prefer_50 rfl rfl ?_
                  refine jr_getf (k := 7) C dMo_prefer_51 inw_Mo (rfl : kC[5]? = _) (by decide) (List.mem_cons_of_mem _ tm3_136) rfl mA_0 rfl ?_
                  refine jr_iload_n (q := 3) C dMo_prefer_54 rfl rfl ?_
                  refine jr_aload_n (q := 0) C dMo_prefer_55 rfl rfl ?_
                  refine jr_getf (k := 7) C dMo_prefer_56 inw_Mo (rfl : kC[5]? = _) (by decide) (List.mem_cons_of_mem _ tm3_136) rfl mA_0 rfl ?_
                  refine jr_iload_n (q := 3) C dMo_prefer_59 rfl rfl ?_
                  refine jr_iconst (v := 1) C dMo_prefer_60 (by decide) ?_
                  refine jr_isub C dMo_prefer_61 ?_
                  obtain ⟨h7, h⟩ := h
                  refine jr_iald (t0 := 0) C dMo_prefer_62 mA_4 rfl h7 ?_
                  obtain ⟨h8, h⟩ := h
                  refine jr_iast (t0 := 0) C dMo_prefer_63 mA_4 rfl h8 ?_
                  refine jr_ws (ws' := mW cI ad fr (jq st 4 (Int32.toNatClampNeg x3) (st 4 (Int32.toNatClampNeg (x3 - (1 : Int32)))))) (mP_4) ?_
                  refine jr_iinc (q := 3) (v := (x3 + (-1 : Int32))) (lv' := [(3, .int (x3 + (-1 : Int32))), (0, .ref (ad 0)), (1, .int x1), (2, .int x2)]) C dMo_prefer_64 rfl rfl (by decide) rfl ?_
                  refine jr_goto (tgt := 46) C dMo_prefer_67 (by decide) ?_
                  refine jr_lv (lv' := [(0, .ref (ad 0)), (1, .int x1), (2, .int x2), (3, .int (x3 + (-1 : Int32)))]) [1, 2, 3, 0] rfl ?_
                  exact ih (jq st 4 (Int32.toNatClampNeg x3) (st 4 (Int32.toNatClampNeg (x3 - (1 : Int32))))) x1 x2 (x3 + (-1 : Int32)) h
            obtain ⟨n10, h⟩ := h
            refine jr_lv (lv' := [(0, .ref (ad 0)), (1, .int x1), (2, .int x2), (3, .int x2)]) [1, 2, 3, 0] rfl ?_
            exact lp9 n10 st x1 x2 x2 h
          · have h := h.2 z
            refine jr_iinc (q := 2) (v := (x2 + (1 : Int32))) (lv' := [(2, .int (x2 + (1 : Int32))), (0, .ref (ad 0)), (1, .int x1)]) C dMo_prefer_38 rfl rfl (by decide) rfl ?_
            refine jr_goto (tgt := 28) C dMo_prefer_41 (by decide) ?_
            refine jr_lv (lv' := [(0, .ref (ad 0)), (1, .int x1), (2, .int (x2 + (1 : Int32)))]) [1, 2, 0] rfl ?_
            exact ih st x1 (x2 + (1 : Int32)) h
      obtain ⟨n13, h⟩ := h
      refine jr_lv (lv' := [(0, .ref (ad 0)), (1, .int l1), (2, .int (0 : Int32))]) [1, 2, 0] rfl ?_
      exact lp12 n13 (jq st1 0 0 v4) l1 (0 : Int32) h
    · have h := h.2 z
      refine jr_iconst (v := 0) C dMo_prefer_24 (by decide) ?_
      exact jr_reti C hr hlocks dMo_prefer_25 h rfl
  refine jr_if_ne (tgt := 13) C dMo_prefer_6 (by decide) (fun z => ?_) (fun z => ?_)
  · have h := h.1 z
    refine jr_iconst (v := 0) C dMo_prefer_13 (by decide) ?_
    refine jr_lv (lv' := [(0, .ref (ad 0)), (1, .int l1)]) [0, 1] rfl ?_
    exact hj3 (0 : Int32) h
  · have h := h.2 z
    refine jr_iconst (v := 1) C dMo_prefer_9 (by decide) ?_
    refine jr_goto (tgt := 14) C dMo_prefer_10 (by decide) ?_
    refine jr_lv (lv' := [(0, .ref (ad 0)), (1, .int l1)]) [0, 1] rfl ?_
    exact hj3 (1 : Int32) h
def wp_Mo_divisor_6 (post : Int64 → jS → Prop) : Nat → jS → Int64 → Int64 → Int64 → Int64 → Prop
  | 0 => fun _ _ _ _ _ => False
  | n + 1 => fun st x0 x2 x4 x6 => (((lg_cmp x4 (0 : Int64)) = 0 → post x6 st) ∧ (¬ (lg_cmp x4 (0 : Int64)) = 0 → (¬ x4 = 0) ∧ wp_Mo_divisor_6 post n st x0 x2 (x6 - x6 / x4 * x4) x4))
def wp_Mo_divisor (st : jS) (l0 : Int64) (l2 : Int64) (post : Int64 → jS → Prop) : Prop :=
  (∃ n4, wp_Mo_divisor_6 post n4 st l0 l2 l0 l2)
set_option maxRecDepth 100000 in
set_option maxHeartbeats 4000000 in
theorem c_Mo_divisor {st : jS} {l0 : Int64} {l2 : Int64} {post : Int64 → jS → Prop} (h : wp_Mo_divisor st l0 l2 post) : jr_Ml l yMo_divisor wMo_divisor ({ frames := 0, cells := 0, slots := 0, locals := 0 }) [.long l0, .long l2] D kC (kT cI cII cL cJ) (mW cI ad fr st) (mW cI ad fr) post := by
  refine jr_ofl (cc := bMo_divisor) (nL := 10) (lv := [(0, .long l0), (2, .long l2)]) (by decide) rfl (Nat.le_of_ble_eq_true rfl) rfl (fun p e s m args below meth c A C hr hlocks => ?_)
  unfold wp_Mo_divisor at h
  refine jr_lload_n (q := 0) C dMo_divisor_0 rfl rfl ?_
  refine jr_lstore (lv' := [(4, .long l0), (0, .long l0), (2, .long l2)]) C dMo_divisor_1 (by decide) rfl ?_
  refine jr_lload_n (q := 2) C dMo_divisor_3 rfl rfl ?_
  refine jr_lstore (lv' := [(6, .long l2), (4, .long l0), (0, .long l0), (2, .long l2)]) C dMo_divisor_4 (by decide) rfl ?_
  have lp2 : ∀ (n : Nat) (st : jS) (x0 : Int64) (x2 : Int64) (x4 : Int64) (x6 : Int64), wp_Mo_divisor_6 post n st x0 x2 x4 x6 → jr_J p l e (headSpec wMo_divisor ({ frames := 0, cells := 0, slots := 0, locals := 0 })).room s m args below meth c A D kC 10 0 0 (MQ below (va_Ql post (jr_B D kC (kT cI cII cL cJ) (mW cI ad fr) A) A) args s 0 0 A) (mW cI ad fr st) 6 [(0, .long x0), (2, .long x2), (4, .long x4), (6, .long x6)] [] := by
    intro n
    induction n with
    | zero => intro st x0 x2 x4 x6 h; exact h.elim
    | succ n ih =>
      intro st x0 x2 x4 x6 h
      unfold wp_Mo_divisor_6 at h
      refine jr_lload (q := 2) C dMo_divisor_6 rfl ?_
      refine jr_lconst (v := 0) C dMo_divisor_8 (by decide) ?_
      refine jr_lcmp C dMo_divisor_9 ?_
      refine jr_if_eq (tgt := 31) C dMo_divisor_10 (by decide) (fun z => ?_) (fun z => ?_)
      · have h := h.1 z
        refine jr_lload (q := 3) C dMo_divisor_31 rfl ?_
        exact jr_retl C hr hlocks dMo_divisor_33 h rfl
      · have h := h.2 z
        refine jr_lload (q := 3) C dMo_divisor_13 rfl ?_
        refine jr_lload (q := 2) C dMo_divisor_15 rfl ?_
        obtain ⟨h1, h⟩ := h
        refine jr_lrem C dMo_divisor_17 h1 ?_
        refine jr_lstore (lv' := [(8, .long (x6 - x6 / x4 * x4)), (0, .long x0), (2, .long x2), (4, .long x4), (6, .long x6)]) C dMo_divisor_18 (by decide) rfl ?_
        refine jr_lload (q := 3) C dMo_divisor_20 rfl ?_
        refine jr_lstore (lv' := [(6, .long x4), (8, .long (x6 - x6 / x4 * x4)), (0, .long x0), (2, .long x2), (4, .long x4)]) C dMo_divisor_22 (by decide) rfl ?_
        refine jr_lload (q := 1) C dMo_divisor_24 rfl ?_
        refine jr_lstore (lv' := [(4, .long (x6 - x6 / x4 * x4)), (6, .long x4), (8, .long (x6 - x6 / x4 * x4)), (0, .long x0), (2, .long x2)]) C dMo_divisor_26 (by decide) rfl ?_
        refine jr_goto (tgt := 6) C dMo_divisor_28 (by decide) ?_
        refine jr_lv (lv' := [(0, .long x0), (2, .long x2), (4, .long (x6 - x6 / x4 * x4)), (6, .long x4)]) [3, 4, 0, 1] rfl ?_
        exact ih st x0 x2 (x6 - x6 / x4 * x4) x4 h
  obtain ⟨n3, h⟩ := h
  refine jr_lv (lv' := [(0, .long l0), (2, .long l2), (4, .long l0), (6, .long l2)]) [2, 3, 1, 0] rfl ?_
  exact lp2 n3 st l0 l2 l0 l2 h
def wp_Mo_part (st : jS) (l0 : Int64) (l2 : Int64) (l4 : Int32) (post : Int64 → jS → Prop) : Prop :=
  ((¬ (lg_cmp l2 (0 : Int64)) = 0 → wp_Mo_divisor st l0 l2 (fun r2 st1 => ((¬ l4 = 0 → (¬ r2 = 0) ∧ post (l2 / r2) st1) ∧ (l4 = 0 → (¬ r2 = 0) ∧ post (l0 / r2) st1)))) ∧ ((lg_cmp l2 (0 : Int64)) = 0 → post (Int32.toInt64 l4) st))
set_option maxRecDepth 100000 in
set_option maxHeartbeats 4000000 in
theorem c_Mo_part {st : jS} {l0 : Int64} {l2 : Int64} {l4 : Int32} {post : Int64 → jS → Prop} (h : wp_Mo_part st l0 l2 l4 post) : jr_Ml l yMo_part wMo_part ({ frames := 1, cells := 0, slots := 0, locals := 29 }) [.long l0, .long l2, .int l4] D kC (kT cI cII cL cJ) (mW cI ad fr st) (mW cI ad fr) post := by
  refine jr_ofl (cc := bMo_part) (nL := 7) (lv := [(0, .long l0), (2, .long l2), (4, .int l4)]) (by decide) rfl (Nat.le_of_ble_eq_true rfl) rfl (fun p e s m args below meth c A C hr hlocks => ?_)
  unfold wp_Mo_part at h
  refine jr_lload_n (q := 1) C dMo_part_0 rfl rfl ?_
  refine jr_lconst (v := 0) C dMo_part_1 (by decide) ?_
  refine jr_lcmp C dMo_part_2 ?_
  refine jr_if_ne (tgt := 10) C dMo_part_3 (by decide) (fun z => ?_) (fun z => ?_)
  · have h := h.1 z
    refine jr_lload_n (q := 0) C dMo_part_10 rfl rfl ?_
    refine jr_lload_n (q := 1) C dMo_part_11 rfl rfl ?_
    refine jr_callSl (As := [.long l0, .long l2]) (rest := []) C (c_Mo_divisor h) (va_cwS 2 C.2.2.2.2.1 (tg_S tm4_15 tm4_16 tm1_7 tm4_17) rfl rfl rfl ⟨by decide, by decide, by decide⟩ ⟨Nat.le_of_ble_eq_true rfl, Nat.le_of_ble_eq_true rfl⟩) dMo_part_12 rfl rfl (Nat.le_of_ble_eq_true rfl) ⟨Nat.le_of_ble_eq_true rfl, Nat.le_of_ble_eq_true rfl⟩ (fun r2 st1 h => ?_)
    refine jr_lstore (lv' := [(5, .long r2), (0, .long l0), (2, .long l2), (4, .int l4)]) C dMo_part_15 (by decide) rfl ?_
    refine jr_iload (q := 3) C dMo_part_17 rfl ?_
    refine jr_if_ne (tgt := 29) C dMo_part_19 (by decide) (fun z => ?_) (fun z => ?_)
    · have h := h.1 z
      refine jr_lload_n (q := 2) C dMo_part_29 rfl rfl ?_
      refine jr_lload (q := 0) C dMo_part_30 rfl ?_
      obtain ⟨h3, h⟩ := h
      refine jr_ldiv C dMo_part_32 h3 ?_
      exact jr_retl C hr hlocks dMo_part_33 h rfl
    · have h := h.2 z
      refine jr_lload_n (q := 1) C dMo_part_22 rfl rfl ?_
      refine jr_lload (q := 0) C dMo_part_23 rfl ?_
      obtain ⟨h4, h⟩ := h
      refine jr_ldiv C dMo_part_25 h4 ?_
      refine jr_goto (tgt := 33) C dMo_part_26 (by decide) ?_
      exact jr_retl C hr hlocks dMo_part_33 h rfl
  · have h := h.2 z
    refine jr_iload (q := 2) C dMo_part_6 rfl ?_
    refine jr_i2l C dMo_part_8 ?_
    exact jr_retl C hr hlocks dMo_part_9 h rfl
def wp_Mo_wrong_57 (post : Int32 → jS → Prop) : Nat → jS → Int32 → Int32 → Int32 → Int32 → Int32 → Int32 → Prop
  | 0 => fun _ _ _ _ _ _ _ => False
  | n + 1 => fun st x1 x2 x3 x4 x5 x6 => (((st 0 4) ≤ x6 → wp_Mo_part st (Int32.toInt64 x4) (Int32.toInt64 x5) x3 (fun r13 st12 => post (Int64.toInt32 r13) st12)) ∧ (¬ (st 0 4) ≤ x6 → vp_in x6 24 ∧ (∃ j15 : Int32 → Prop, (∀ (v16 : Int32), j15 v16 → vp_in x6 24 ∧ ((¬ (st 2 (Int32.toNatClampNeg x6)) = x1 → wp_Mo_wrong_57 post n st x1 x2 x3 x4 v16 (x6 + (1 : Int32))) ∧ ((st 2 (Int32.toNatClampNeg x6)) = x1 → wp_Mo_toldBy st x6 (0 : Int32) (st 0 2) (fun r19 st18 => ((¬ r19 = x2 → wp_Mo_wrong_57 post n st18 x1 x2 x3 x4 v16 (x6 + (1 : Int32))) ∧ (r19 = x2 → wp_Mo_wrong_57 post n st18 x1 x2 x3 (x4 + (1 : Int32)) v16 (x6 + (1 : Int32)))))))) ∧ ((¬ (st 2 (Int32.toNatClampNeg x6)) = x1 → j15 x5) ∧ ((st 2 (Int32.toNatClampNeg x6)) = x1 → j15 (x5 + (1 : Int32)))))))
def wp_Mo_wrong (st : jS) (l1 : Int32) (l2 : Int32) (l3 : Int32) (post : Int32 → jS → Prop) : Prop :=
  wp_Mo_isKind st l1 (fun r2 st1 => (∃ j3 : jS → Int32 → Prop, (∀ (st10 : jS) (v11 : Int32), j3 st10 v11 → ((((jq st10 0 0 v11) 0 0) ≤ 0 → (∃ n22, wp_Mo_wrong_57 post n22 (jq st10 0 0 v11) l1 l2 l3 (0 : Int32) (0 : Int32) (0 : Int32))) ∧ (¬ ((jq st10 0 0 v11) 0 0) ≤ 0 → post (0 : Int32) (jq st10 0 0 v11)))) ∧ ((r2 = 0 → j3 st1 (1 : Int32)) ∧ (¬ r2 = 0 → ((l2 = (-1 : Int32) → wp_Mo_isIn st1 l3 (0 : Int32) (1 : Int32) (fun r5 st4 => ((¬ r5 = 0 → j3 st4 (0 : Int32)) ∧ (r5 = 0 → j3 st4 (1 : Int32))))) ∧ (¬ l2 = (-1 : Int32) → wp_Mo_isKind st1 l2 (fun r7 st6 => ((r7 = 0 → j3 st6 (1 : Int32)) ∧ (¬ r7 = 0 → wp_Mo_isIn st6 l3 (0 : Int32) (1 : Int32) (fun r9 st8 => ((¬ r9 = 0 → j3 st8 (0 : Int32)) ∧ (r9 = 0 → j3 st8 (1 : Int32)))))))))))))
set_option maxRecDepth 100000 in
set_option maxHeartbeats 4000000 in
theorem c_Mo_wrong {st : jS} {l1 : Int32} {l2 : Int32} {l3 : Int32} {post : Int32 → jS → Prop} (h : wp_Mo_wrong st l1 l2 l3 post) : jr_Mi l yMo_wrong wMo_wrong ({ frames := 3, cells := 0, slots := 0, locals := 76 }) [.ref (ad 0), .int l1, .int l2, .int l3] D kC (kT cI cII cL cJ) (mW cI ad fr st) (mW cI ad fr) post := by
  refine jr_ofi (cc := bMo_wrong) (nL := 7) (lv := [(0, .ref (ad 0)), (1, .int l1), (2, .int l2), (3, .int l3)]) (by decide) rfl (Nat.le_of_ble_eq_true rfl) rfl (fun p e s m args below meth c A C hr hlocks => ?_)
  unfold wp_Mo_wrong at h
  refine jr_aload_n (q := 0) C dMo_wrong_0 rfl rfl ?_
  refine jr_aload_n (q := 0) C dMo_wrong_1 rfl rfl ?_
  refine jr_iload_n (q := 1) C dMo_wrong_2 rfl rfl ?_
  refine jr_callVi (As := [.int l1]) (rest := [.ref (ad 0)]) C (c_Mo_isKind h) (cwV 1 C.2.2.2.2.1 (tg_V tm3_189 tm3_191 tp_18 tm1_7 tm3_192) rfl rfl rfl ⟨rfl, by decide, by decide, by decide⟩ ⟨Nat.le_of_ble_eq_true rfl, Nat.le_of_ble_eq_true rfl⟩) dMo_wrong_3 (rfl : kC[5]? = _) mA_0 rfl rfl (Nat.le_of_ble_eq_true rfl) ⟨Nat.le_of_ble_eq_true rfl, Nat.le_of_ble_eq_true rfl⟩ (fun r2 st1 h => ?_)
  obtain ⟨j3, j3r, h⟩ := h
  have hj3 : ∀ (st10 : jS) (v11 : Int32), j3 st10 v11 → jr_J p l e (headSpec wMo_wrong ({ frames := 3, cells := 0, slots := 0, locals := 76 })).room s m args below meth c A D kC 7 0 0 (MQ below (va_Qi post (jr_B D kC (kT cI cII cL cJ) (mW cI ad fr) A) A) args s 0 0 A) (mW cI ad fr st10) 36 [(0, .ref (ad 0)), (1, .int l1), (2, .int l2), (3, .int l3)] [.int v11, .ref (ad 0)] := by
    intro st10 v11 h
    have h := j3r st10 v11 h
    refine jr_putf (k := 0) C dMo_wrong_36 inw_Mo ty_Mo ty_Mo_ok nm_Mo (rfl : kC[5]? = _) (by decide) (List.mem_cons_of_mem _ tm3_129) rfl rfl (ty := .int) rfl rfl rfl mA_0 (Nat.le_of_ble_eq_true rfl) ?_
    refine jr_ws (ws' := mW cI ad fr (jq st10 0 0 v11)) (mP_0_0) ?_
    refine jr_aload_n (q := 0) C dMo_wrong_39 rfl rfl ?_
    refine jr_getf (k := 0) C dMo_wrong_40 inw_Mo (rfl : kC[5]? = _) (by decide) (List.mem_cons_of_mem _ tm3_129) rfl mA_0 rfl ?_
    refine jr_if_le (tgt := 48) C dMo_wrong_43 (by decide) (fun z => ?_) (fun z => ?_)
    · have h := h.1 z
      refine jr_iconst (v := 0) C dMo_wrong_48 (by decide) ?_
      refine jr_istore (lv' := [(4, .int (0 : Int32)), (0, .ref (ad 0)), (1, .int l1), (2, .int l2), (3, .int l3)]) C dMo_wrong_49 (by decide) rfl ?_
      refine jr_iconst (v := 0) C dMo_wrong_51 (by decide) ?_
      refine jr_istore (lv' := [(5, .int (0 : Int32)), (4, .int (0 : Int32)), (0, .ref (ad 0)), (1, .int l1), (2, .int l2), (3, .int l3)]) C dMo_wrong_52 (by decide) rfl ?_
      refine jr_iconst (v := 0) C dMo_wrong_54 (by decide) ?_
      refine jr_istore (lv' := [(6, .int (0 : Int32)), (5, .int (0 : Int32)), (4, .int (0 : Int32)), (0, .ref (ad 0)), (1, .int l1), (2, .int l2), (3, .int l3)]) C dMo_wrong_55 (by decide) rfl ?_
      have lp20 : ∀ (n : Nat) (st : jS) (x1 : Int32) (x2 : Int32) (x3 : Int32) (x4 : Int32) (x5 : Int32) (x6 : Int32), wp_Mo_wrong_57 post n st x1 x2 x3 x4 x5 x6 → jr_J p l e (headSpec wMo_wrong ({ frames := 3, cells := 0, slots := 0, locals := 76 })).room s m args below meth c A D kC 7 0 0 (MQ below (va_Qi post (jr_B D kC (kT cI cII cL cJ) (mW cI ad fr) A) A) args s 0 0 A) (mW cI ad fr st) 57 [(0, .ref (ad 0)), (1, .int x1), (2, .int x2), (3, .int x3), (4, .int x4), (5, .int x5), (6, .int x6)] [] := by
        intro n
        induction n with
        | zero => intro st x1 x2 x3 x4 x5 x6 h; exact h.elim
        | succ n ih =>
          intro st x1 x2 x3 x4 x5 x6 h
          unfold wp_Mo_wrong_57 at h
          refine jr_iload (q := 6) C dMo_wrong_57 rfl ?_
          refine jr_aload_n (q := 0) C dMo_wrong_59 rfl rfl ?_
          refine jr_getf (k := 4) C dMo_wrong_60 inw_Mo (rfl : kC[5]? = _) (by decide) (List.mem_cons_of_mem _ tm3_133) rfl mA_0 rfl ?_
          refine jr_icmp_ge (tgt := 131) C dMo_wrong_63 (by decide) (fun z => ?_) (fun z => ?_)
          · have h := h.1 z
            refine jr_iload (q := 4) C dMo_wrong_131 rfl ?_
            refine jr_i2l C dMo_wrong_133 ?_
            refine jr_iload (q := 5) C dMo_wrong_134 rfl ?_
            refine jr_i2l C dMo_wrong_136 ?_
            refine jr_iload_n (q := 3) C dMo_wrong_137 rfl rfl ?_
            refine jr_callSl (As := [.long (Int32.toInt64 x4), .long (Int32.toInt64 x5), .int x3]) (rest := []) C (c_Mo_part h) (va_cwS 3 C.2.2.2.2.1 (tg_S tm4_12 tm4_13 tm1_7 tm4_14) rfl rfl rfl ⟨by decide, by decide, by decide⟩ ⟨Nat.le_of_ble_eq_true rfl, Nat.le_of_ble_eq_true rfl⟩) dMo_wrong_138 rfl rfl (Nat.le_of_ble_eq_true rfl) ⟨Nat.le_of_ble_eq_true rfl, Nat.le_of_ble_eq_true rfl⟩ (fun r13 st12 h => ?_)
            refine jr_l2i C dMo_wrong_141 ?_
            exact jr_reti C hr hlocks dMo_wrong_142 h rfl
          · have h := h.2 z
            refine jr_aload_n (q := 0) C dMo_wrong_66 rfl rfl ?_
            refine jr_getf (k := 5) C dMo_wrong_67 inw_Mo (rfl : kC[5]? = _) (by decide) (List.mem_cons_of_mem _ tm3_134) rfl mA_0 rfl ?_
            refine jr_iload (q := 6) C dMo_wrong_70 rfl ?_
            obtain ⟨h14, h⟩ := h
            refine jr_iald (t0 := 0) C dMo_wrong_72 mA_2 rfl h14 ?_
            refine jr_iload_n (q := 1) C dMo_wrong_73 rfl rfl ?_
            obtain ⟨j15, j15r, h⟩ := h
            have hj15 : ∀ (v16 : Int32), j15 v16 → jr_J p l e (headSpec wMo_wrong ({ frames := 3, cells := 0, slots := 0, locals := 76 })).room s m args below meth c A D kC 7 0 0 (MQ below (va_Qi post (jr_B D kC (kT cI cII cL cJ) (mW cI ad fr) A) A) args s 0 0 A) (mW cI ad fr st) 86 [(0, .ref (ad 0)), (1, .int x1), (2, .int x2), (3, .int x3), (4, .int x4), (5, .int x5), (6, .int x6)] [.int v16] := by
              intro v16 h
              have h := j15r v16 h
              refine jr_istore (lv' := [(5, .int v16), (0, .ref (ad 0)), (1, .int x1), (2, .int x2), (3, .int x3), (4, .int x4), (6, .int x6)]) C dMo_wrong_86 (by decide) rfl ?_
              refine jr_aload_n (q := 1) C dMo_wrong_88 rfl rfl ?_
              refine jr_getf (k := 5) C dMo_wrong_89 inw_Mo (rfl : kC[5]? = _) (by decide) (List.mem_cons_of_mem _ tm3_134) rfl mA_0 rfl ?_
              refine jr_iload (q := 6) C dMo_wrong_92 rfl ?_
              obtain ⟨h17, h⟩ := h
              refine jr_iald (t0 := 0) C dMo_wrong_94 mA_2 rfl h17 ?_
              refine jr_iload_n (q := 2) C dMo_wrong_95 rfl rfl ?_
              refine jr_icmp_ne (tgt := 121) C dMo_wrong_96 (by decide) (fun z => ?_) (fun z => ?_)
              · have h := h.1 z
                refine jr_iload (q := 5) C dMo_wrong_121 rfl ?_
                refine jr_istore (lv' := [(4, .int x4), (5, .int v16), (0, .ref (ad 0)), (1, .int x1), (2, .int x2), (3, .int x3), (6, .int x6)]) C dMo_wrong_123 (by decide) rfl ?_
                refine jr_iinc (q := 6) (v := (x6 + (1 : Int32))) (lv' := [(6, .int (x6 + (1 : Int32))), (4, .int x4), (5, .int v16), (0, .ref (ad 0)), (1, .int x1), (2, .int x2), (3, .int x3)]) C dMo_wrong_125 rfl rfl (by decide) rfl ?_
                refine jr_goto (tgt := 57) C dMo_wrong_128 (by decide) ?_
                refine jr_lv (lv' := [(0, .ref (ad 0)), (1, .int x1), (2, .int x2), (3, .int x3), (4, .int x4), (5, .int v16), (6, .int (x6 + (1 : Int32)))]) [3, 4, 5, 6, 1, 2, 0] rfl ?_
                exact ih st x1 x2 x3 x4 v16 (x6 + (1 : Int32)) h
              · have h := h.2 z
                refine jr_aload_n (q := 1) C dMo_wrong_99 rfl rfl ?_
                refine jr_iload (q := 6) C dMo_wrong_100 rfl ?_
                refine jr_iconst (v := 0) C dMo_wrong_102 (by decide) ?_
                refine jr_aload_n (q := 1) C dMo_wrong_103 rfl rfl ?_
                refine jr_getf (k := 2) C dMo_wrong_104 inw_Mo (rfl : kC[5]? = _) (by decide) (List.mem_cons_of_mem _ tm3_131) rfl mA_0 rfl ?_
                refine jr_callVi (As := [.int x6, .int (0 : Int32), .int (st 0 2)]) (rest := []) C (c_Mo_toldBy h) (cwV 3 C.2.2.2.2.1 (tg_V tm3_236 tm3_238 tp_23 tm1_7 tm3_239) rfl rfl rfl ⟨rfl, by decide, by decide, by decide⟩ ⟨Nat.le_of_ble_eq_true rfl, Nat.le_of_ble_eq_true rfl⟩) dMo_wrong_107 (rfl : kC[5]? = _) mA_0 rfl rfl (Nat.le_of_ble_eq_true rfl) ⟨Nat.le_of_ble_eq_true rfl, Nat.le_of_ble_eq_true rfl⟩ (fun r19 st18 h => ?_)
                refine jr_iload_n (q := 3) C dMo_wrong_110 rfl rfl ?_
                refine jr_icmp_ne (tgt := 121) C dMo_wrong_111 (by decide) (fun z => ?_) (fun z => ?_)
                · have h := h.1 z
                  refine jr_iload (q := 5) C dMo_wrong_121 rfl ?_
                  refine jr_istore (lv' := [(4, .int x4), (5, .int v16), (0, .ref (ad 0)), (1, .int x1), (2, .int x2), (3, .int x3), (6, .int x6)]) C dMo_wrong_123 (by decide) rfl ?_
                  refine jr_iinc (q := 6) (v := (x6 + (1 : Int32))) (lv' := [(6, .int (x6 + (1 : Int32))), (4, .int x4), (5, .int v16), (0, .ref (ad 0)), (1, .int x1), (2, .int x2), (3, .int x3)]) C dMo_wrong_125 rfl rfl (by decide) rfl ?_
                  refine jr_goto (tgt := 57) C dMo_wrong_128 (by decide) ?_
                  refine jr_lv (lv' := [(0, .ref (ad 0)), (1, .int x1), (2, .int x2), (3, .int x3), (4, .int x4), (5, .int v16), (6, .int (x6 + (1 : Int32)))]) [3, 4, 5, 6, 1, 2, 0] rfl ?_
                  exact ih st18 x1 x2 x3 x4 v16 (x6 + (1 : Int32)) h
                · have h := h.2 z
                  refine jr_iload (q := 5) C dMo_wrong_114 rfl ?_
                  refine jr_iconst (v := 1) C dMo_wrong_116 (by decide) ?_
                  refine jr_iadd C dMo_wrong_117 ?_
                  refine jr_goto (tgt := 123) C dMo_wrong_118 (by decide) ?_
                  refine jr_istore (lv' := [(4, .int (x4 + (1 : Int32))), (5, .int v16), (0, .ref (ad 0)), (1, .int x1), (2, .int x2), (3, .int x3), (6, .int x6)]) C dMo_wrong_123 (by decide) rfl ?_
                  refine jr_iinc (q := 6) (v := (x6 + (1 : Int32))) (lv' := [(6, .int (x6 + (1 : Int32))), (4, .int (x4 + (1 : Int32))), (5, .int v16), (0, .ref (ad 0)), (1, .int x1), (2, .int x2), (3, .int x3)]) C dMo_wrong_125 rfl rfl (by decide) rfl ?_
                  refine jr_goto (tgt := 57) C dMo_wrong_128 (by decide) ?_
                  refine jr_lv (lv' := [(0, .ref (ad 0)), (1, .int x1), (2, .int x2), (3, .int x3), (4, .int (x4 + (1 : Int32))), (5, .int v16), (6, .int (x6 + (1 : Int32)))]) [3, 4, 5, 6, 1, 2, 0] rfl ?_
                  exact ih st18 x1 x2 x3 (x4 + (1 : Int32)) v16 (x6 + (1 : Int32)) h
            refine jr_icmp_ne (tgt := 84) C dMo_wrong_74 (by decide) (fun z => ?_) (fun z => ?_)
            · have h := h.1 z
              refine jr_iload (q := 5) C dMo_wrong_84 rfl ?_
              refine jr_lv (lv' := [(0, .ref (ad 0)), (1, .int x1), (2, .int x2), (3, .int x3), (4, .int x4), (5, .int x5), (6, .int x6)]) [0, 1, 2, 3, 4, 5, 6] rfl ?_
              exact hj15 x5 h
            · have h := h.2 z
              refine jr_iload (q := 5) C dMo_wrong_77 rfl ?_
              refine jr_iconst (v := 1) C dMo_wrong_79 (by decide) ?_
              refine jr_iadd C dMo_wrong_80 ?_
              refine jr_goto (tgt := 86) C dMo_wrong_81 (by decide) ?_
              refine jr_lv (lv' := [(0, .ref (ad 0)), (1, .int x1), (2, .int x2), (3, .int x3), (4, .int x4), (5, .int x5), (6, .int x6)]) [0, 1, 2, 3, 4, 5, 6] rfl ?_
              exact hj15 (x5 + (1 : Int32)) h
      obtain ⟨n21, h⟩ := h
      refine jr_lv (lv' := [(0, .ref (ad 0)), (1, .int l1), (2, .int l2), (3, .int l3), (4, .int (0 : Int32)), (5, .int (0 : Int32)), (6, .int (0 : Int32))]) [3, 4, 5, 6, 2, 1, 0] rfl ?_
      exact lp20 n21 (jq st10 0 0 v11) l1 l2 l3 (0 : Int32) (0 : Int32) (0 : Int32) h
    · have h := h.2 z
      refine jr_iconst (v := 0) C dMo_wrong_46 (by decide) ?_
      exact jr_reti C hr hlocks dMo_wrong_47 h rfl
  refine jr_if_eq (tgt := 31) C dMo_wrong_6 (by decide) (fun z => ?_) (fun z => ?_)
  · have h := h.1 z
    refine jr_iconst (v := 1) C dMo_wrong_31 (by decide) ?_
    refine jr_goto (tgt := 36) C dMo_wrong_32 (by decide) ?_
    refine jr_lv (lv' := [(0, .ref (ad 0)), (1, .int l1), (2, .int l2), (3, .int l3)]) [0, 1, 2, 3] rfl ?_
    exact hj3 st1 (1 : Int32) h
  · have h := h.2 z
    refine jr_iload_n (q := 2) C dMo_wrong_9 rfl rfl ?_
    refine jr_iconst (v := -1) C dMo_wrong_10 (by decide) ?_
    refine jr_icmp_eq (tgt := 22) C dMo_wrong_11 (by decide) (fun z => ?_) (fun z => ?_)
    · have h := h.1 z
      refine jr_iload_n (q := 3) C dMo_wrong_22 rfl rfl ?_
      refine jr_iconst (v := 0) C dMo_wrong_23 (by decide) ?_
      refine jr_iconst (v := 1) C dMo_wrong_24 (by decide) ?_
      refine jr_callSi (As := [.int l3, .int (0 : Int32), .int (1 : Int32)]) (rest := [.ref (ad 0)]) C (c_Mo_isIn h) (va_cwS 3 C.2.2.2.2.1 (tg_S tm3_193 tm3_194 tm1_7 tm3_195) rfl rfl rfl ⟨by decide, by decide, by decide⟩ ⟨Nat.le_of_ble_eq_true rfl, Nat.le_of_ble_eq_true rfl⟩) dMo_wrong_25 rfl rfl (Nat.le_of_ble_eq_true rfl) ⟨Nat.le_of_ble_eq_true rfl, Nat.le_of_ble_eq_true rfl⟩ (fun r5 st4 h => ?_)
      refine jr_if_ne (tgt := 35) C dMo_wrong_28 (by decide) (fun z => ?_) (fun z => ?_)
      · have h := h.1 z
        refine jr_iconst (v := 0) C dMo_wrong_35 (by decide) ?_
        refine jr_lv (lv' := [(0, .ref (ad 0)), (1, .int l1), (2, .int l2), (3, .int l3)]) [0, 1, 2, 3] rfl ?_
        exact hj3 st4 (0 : Int32) h
      · have h := h.2 z
        refine jr_iconst (v := 1) C dMo_wrong_31 (by decide) ?_
        refine jr_goto (tgt := 36) C dMo_wrong_32 (by decide) ?_
        refine jr_lv (lv' := [(0, .ref (ad 0)), (1, .int l1), (2, .int l2), (3, .int l3)]) [0, 1, 2, 3] rfl ?_
        exact hj3 st4 (1 : Int32) h
    · have h := h.2 z
      refine jr_aload_n (q := 0) C dMo_wrong_14 rfl rfl ?_
      refine jr_iload_n (q := 2) C dMo_wrong_15 rfl rfl ?_
      refine jr_callVi (As := [.int l2]) (rest := [.ref (ad 0)]) C (c_Mo_isKind h) (cwV 1 C.2.2.2.2.1 (tg_V tm3_189 tm3_191 tp_18 tm1_7 tm3_192) rfl rfl rfl ⟨rfl, by decide, by decide, by decide⟩ ⟨Nat.le_of_ble_eq_true rfl, Nat.le_of_ble_eq_true rfl⟩) dMo_wrong_16 (rfl : kC[5]? = _) mA_0 rfl rfl (Nat.le_of_ble_eq_true rfl) ⟨Nat.le_of_ble_eq_true rfl, Nat.le_of_ble_eq_true rfl⟩ (fun r7 st6 h => ?_)
      refine jr_if_eq (tgt := 31) C dMo_wrong_19 (by decide) (fun z => ?_) (fun z => ?_)
      · have h := h.1 z
        refine jr_iconst (v := 1) C dMo_wrong_31 (by decide) ?_
        refine jr_goto (tgt := 36) C dMo_wrong_32 (by decide) ?_
        refine jr_lv (lv' := [(0, .ref (ad 0)), (1, .int l1), (2, .int l2), (3, .int l3)]) [0, 1, 2, 3] rfl ?_
        exact hj3 st6 (1 : Int32) h
      · have h := h.2 z
        refine jr_iload_n (q := 3) C dMo_wrong_22 rfl rfl ?_
        refine jr_iconst (v := 0) C dMo_wrong_23 (by decide) ?_
        refine jr_iconst (v := 1) C dMo_wrong_24 (by decide) ?_
        refine jr_callSi (As := [.int l3, .int (0 : Int32), .int (1 : Int32)]) (rest := [.ref (ad 0)]) C (c_Mo_isIn h) (va_cwS 3 C.2.2.2.2.1 (tg_S tm3_193 tm3_194 tm1_7 tm3_195) rfl rfl rfl ⟨by decide, by decide, by decide⟩ ⟨Nat.le_of_ble_eq_true rfl, Nat.le_of_ble_eq_true rfl⟩) dMo_wrong_25 rfl rfl (Nat.le_of_ble_eq_true rfl) ⟨Nat.le_of_ble_eq_true rfl, Nat.le_of_ble_eq_true rfl⟩ (fun r9 st8 h => ?_)
        refine jr_if_ne (tgt := 35) C dMo_wrong_28 (by decide) (fun z => ?_) (fun z => ?_)
        · have h := h.1 z
          refine jr_iconst (v := 0) C dMo_wrong_35 (by decide) ?_
          refine jr_lv (lv' := [(0, .ref (ad 0)), (1, .int l1), (2, .int l2), (3, .int l3)]) [0, 1, 2, 3] rfl ?_
          exact hj3 st8 (0 : Int32) h
        · have h := h.2 z
          refine jr_iconst (v := 1) C dMo_wrong_31 (by decide) ?_
          refine jr_goto (tgt := 36) C dMo_wrong_32 (by decide) ?_
          refine jr_lv (lv' := [(0, .ref (ad 0)), (1, .int l1), (2, .int l2), (3, .int l3)]) [0, 1, 2, 3] rfl ?_
          exact hj3 st8 (1 : Int32) h
end MO
