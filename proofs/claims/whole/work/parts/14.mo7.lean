section MO
variable {l : Launch} {D : va_G} {cI cII cL cJ : ClassId} {ad : Nat → Nat} {fr : va_W}
def wp_Mo_strengthAt_45 (post : Int32 → jS → Prop) : Nat → jS → Int32 → Int32 → Int32 → Int32 → Prop
  | 0 => fun _ _ _ _ _ => False
  | n + 1 => fun st x1 x2 x3 x4 => vp_in x4 36 ∧ ((x2 ≤ (st 9 (Int32.toNatClampNeg x4)) → vp_in x4 36 ∧ ((¬ x2 = (st 9 (Int32.toNatClampNeg x4)) → vp_in x4 36 ∧ vp_in (x4 - (1 : Int32)) 36 ∧ vp_in (x4 - (1 : Int32)) 36 ∧ vp_in x4 36 ∧ vp_in (x4 - (1 : Int32)) 36 ∧ (¬ ((st 9 (Int32.toNatClampNeg x4)) - (st 9 (Int32.toNatClampNeg (x4 - (1 : Int32))))) = 0) ∧ vp_in (x4 - (1 : Int32)) 36 ∧ ((0 ≤ (((st 10 (Int32.toNatClampNeg x4)) - (st 10 (Int32.toNatClampNeg (x4 - (1 : Int32))))) * (x2 - (st 9 (Int32.toNatClampNeg (x4 - (1 : Int32)))))) → post ((st 10 (Int32.toNatClampNeg (x4 - (1 : Int32)))) + ((((st 10 (Int32.toNatClampNeg x4)) - (st 10 (Int32.toNatClampNeg (x4 - (1 : Int32))))) * (x2 - (st 9 (Int32.toNatClampNeg (x4 - (1 : Int32)))))) / ((st 9 (Int32.toNatClampNeg x4)) - (st 9 (Int32.toNatClampNeg (x4 - (1 : Int32))))))) st) ∧ (¬ 0 ≤ (((st 10 (Int32.toNatClampNeg x4)) - (st 10 (Int32.toNatClampNeg (x4 - (1 : Int32))))) * (x2 - (st 9 (Int32.toNatClampNeg (x4 - (1 : Int32)))))) → (((((((st 10 (Int32.toNatClampNeg x4)) - (st 10 (Int32.toNatClampNeg (x4 - (1 : Int32))))) * (x2 - (st 9 (Int32.toNatClampNeg (x4 - (1 : Int32)))))) / ((st 9 (Int32.toNatClampNeg x4)) - (st 9 (Int32.toNatClampNeg (x4 - (1 : Int32)))))) * ((st 9 (Int32.toNatClampNeg x4)) - (st 9 (Int32.toNatClampNeg (x4 - (1 : Int32)))))) = (((st 10 (Int32.toNatClampNeg x4)) - (st 10 (Int32.toNatClampNeg (x4 - (1 : Int32))))) * (x2 - (st 9 (Int32.toNatClampNeg (x4 - (1 : Int32)))))) → post ((st 10 (Int32.toNatClampNeg (x4 - (1 : Int32)))) + ((((st 10 (Int32.toNatClampNeg x4)) - (st 10 (Int32.toNatClampNeg (x4 - (1 : Int32))))) * (x2 - (st 9 (Int32.toNatClampNeg (x4 - (1 : Int32)))))) / ((st 9 (Int32.toNatClampNeg x4)) - (st 9 (Int32.toNatClampNeg (x4 - (1 : Int32))))))) st) ∧ (¬ (((((st 10 (Int32.toNatClampNeg x4)) - (st 10 (Int32.toNatClampNeg (x4 - (1 : Int32))))) * (x2 - (st 9 (Int32.toNatClampNeg (x4 - (1 : Int32)))))) / ((st 9 (Int32.toNatClampNeg x4)) - (st 9 (Int32.toNatClampNeg (x4 - (1 : Int32)))))) * ((st 9 (Int32.toNatClampNeg x4)) - (st 9 (Int32.toNatClampNeg (x4 - (1 : Int32)))))) = (((st 10 (Int32.toNatClampNeg x4)) - (st 10 (Int32.toNatClampNeg (x4 - (1 : Int32))))) * (x2 - (st 9 (Int32.toNatClampNeg (x4 - (1 : Int32)))))) → post ((st 10 (Int32.toNatClampNeg (x4 - (1 : Int32)))) + (((((st 10 (Int32.toNatClampNeg x4)) - (st 10 (Int32.toNatClampNeg (x4 - (1 : Int32))))) * (x2 - (st 9 (Int32.toNatClampNeg (x4 - (1 : Int32)))))) / ((st 9 (Int32.toNatClampNeg x4)) - (st 9 (Int32.toNatClampNeg (x4 - (1 : Int32)))))) - (1 : Int32))) st))))) ∧ (x2 = (st 9 (Int32.toNatClampNeg x4)) → vp_in x4 36 ∧ post (st 10 (Int32.toNatClampNeg x4)) st))) ∧ (¬ x2 ≤ (st 9 (Int32.toNatClampNeg x4)) → wp_Mo_strengthAt_45 post n st x1 x2 x3 (x4 + (1 : Int32))))
def wp_Mo_strengthAt (st : jS) (l1 : Int32) (l2 : Int32) (post : Int32 → jS → Prop) : Prop :=
  vp_in l1 6 ∧ (((st 8 (Int32.toNatClampNeg l1)) = 0 → post (-1 : Int32) st) ∧ (¬ (st 8 (Int32.toNatClampNeg l1)) = 0 → vp_in ((6 : Int32) * l1) 36 ∧ ((l2 < (st 9 (Int32.toNatClampNeg ((6 : Int32) * l1))) → post (-1 : Int32) st) ∧ (¬ l2 < (st 9 (Int32.toNatClampNeg ((6 : Int32) * l1))) → vp_in ((((6 : Int32) * l1) + (st 8 (Int32.toNatClampNeg l1))) - (1 : Int32)) 36 ∧ ((l2 ≤ (st 9 (Int32.toNatClampNeg ((((6 : Int32) * l1) + (st 8 (Int32.toNatClampNeg l1))) - (1 : Int32)))) → (∃ n16, wp_Mo_strengthAt_45 post n16 st l1 l2 (st 8 (Int32.toNatClampNeg l1)) ((6 : Int32) * l1))) ∧ (¬ l2 ≤ (st 9 (Int32.toNatClampNeg ((((6 : Int32) * l1) + (st 8 (Int32.toNatClampNeg l1))) - (1 : Int32)))) → post (-1 : Int32) st))))))
set_option maxRecDepth 100000 in
set_option maxHeartbeats 4000000 in
theorem c_Mo_strengthAt {st : jS} {l1 : Int32} {l2 : Int32} {post : Int32 → jS → Prop} (h : wp_Mo_strengthAt st l1 l2 post) : jr_Mi l yMo_strengthAt wMo_strengthAt ({ frames := 0, cells := 0, slots := 0, locals := 0 }) [.ref (ad 0), .int l1, .int l2] D kC (kT cI cII cL cJ) (mW cI ad fr st) (mW cI ad fr) post := by
  refine jr_ofi (cc := bMo_strengthAt) (nL := 8) (lv := [(0, .ref (ad 0)), (1, .int l1), (2, .int l2)]) (by decide) rfl (Nat.le_of_ble_eq_true rfl) rfl (fun p e s m args below meth c A C hr hlocks => ?_)
  unfold wp_Mo_strengthAt at h
  refine jr_aload_n (q := 0) C dMo_strengthAt_0 rfl rfl ?_
  refine jr_getf (k := 13) C dMo_strengthAt_1 inw_Mo (rfl : kC[5]? = _) (by decide) (List.mem_cons_of_mem _ tm3_142) rfl mA_0 rfl ?_
  refine jr_iload_n (q := 1) C dMo_strengthAt_4 rfl rfl ?_
  obtain ⟨h1, h⟩ := h
  refine jr_iald (t0 := 0) C dMo_strengthAt_5 mA_8 rfl h1 ?_
  refine jr_istore_n (lv' := [(3, .int (st 8 (Int32.toNatClampNeg l1))), (0, .ref (ad 0)), (1, .int l1), (2, .int l2)]) C dMo_strengthAt_6 rfl (by decide) rfl ?_
  refine jr_bipush (v := 6) C dMo_strengthAt_7 (by decide) ?_
  refine jr_iload_n (q := 2) C dMo_strengthAt_9 rfl rfl ?_
  refine jr_imul C dMo_strengthAt_10 ?_
  refine jr_istore (lv' := [(4, .int ((6 : Int32) * l1)), (3, .int (st 8 (Int32.toNatClampNeg l1))), (0, .ref (ad 0)), (1, .int l1), (2, .int l2)]) C dMo_strengthAt_11 (by decide) rfl ?_
  refine jr_iload_n (q := 1) C dMo_strengthAt_13 rfl rfl ?_
  refine jr_if_eq (tgt := 43) C dMo_strengthAt_14 (by decide) (fun z => ?_) (fun z => ?_)
  · have h := h.1 z
    refine jr_iconst (v := -1) C dMo_strengthAt_43 (by decide) ?_
    exact jr_reti C hr hlocks dMo_strengthAt_44 h rfl
  · have h := h.2 z
    refine jr_iload_n (q := 4) C dMo_strengthAt_17 rfl rfl ?_
    refine jr_aload_n (q := 2) C dMo_strengthAt_18 rfl rfl ?_
    refine jr_getf (k := 14) C dMo_strengthAt_19 inw_Mo (rfl : kC[5]? = _) (by decide) (List.mem_cons_of_mem _ tm3_143) rfl mA_0 rfl ?_
    refine jr_iload (q := 0) C dMo_strengthAt_22 rfl ?_
    obtain ⟨h2, h⟩ := h
    refine jr_iald (t0 := 0) C dMo_strengthAt_24 mA_9 rfl h2 ?_
    refine jr_icmp_lt (tgt := 43) C dMo_strengthAt_25 (by decide) (fun z => ?_) (fun z => ?_)
    · have h := h.1 z
      refine jr_iconst (v := -1) C dMo_strengthAt_43 (by decide) ?_
      exact jr_reti C hr hlocks dMo_strengthAt_44 h rfl
    · have h := h.2 z
      refine jr_iload_n (q := 4) C dMo_strengthAt_28 rfl rfl ?_
      refine jr_aload_n (q := 2) C dMo_strengthAt_29 rfl rfl ?_
      refine jr_getf (k := 14) C dMo_strengthAt_30 inw_Mo (rfl : kC[5]? = _) (by decide) (List.mem_cons_of_mem _ tm3_143) rfl mA_0 rfl ?_
      refine jr_iload (q := 0) C dMo_strengthAt_33 rfl ?_
      refine jr_iload_n (q := 1) C dMo_strengthAt_35 rfl rfl ?_
      refine jr_iadd C dMo_strengthAt_36 ?_
      refine jr_iconst (v := 1) C dMo_strengthAt_37 (by decide) ?_
      refine jr_isub C dMo_strengthAt_38 ?_
      obtain ⟨h3, h⟩ := h
      refine jr_iald (t0 := 0) C dMo_strengthAt_39 mA_9 rfl h3 ?_
      refine jr_icmp_le (tgt := 45) C dMo_strengthAt_40 (by decide) (fun z => ?_) (fun z => ?_)
      · have h := h.1 z
        have lp14 : ∀ (n : Nat) (st : jS) (x1 : Int32) (x2 : Int32) (x3 : Int32) (x4 : Int32), wp_Mo_strengthAt_45 post n st x1 x2 x3 x4 → jr_J p l e (headSpec wMo_strengthAt ({ frames := 0, cells := 0, slots := 0, locals := 0 })).room s m args below meth c A D kC 8 0 0 (MQ below (va_Qi post (jr_B D kC (kT cI cII cL cJ) (mW cI ad fr) A) A) args s 0 0 A) (mW cI ad fr st) 45 [(0, .ref (ad 0)), (1, .int x1), (2, .int x2), (3, .int x3), (4, .int x4)] [] := by
          intro n
          induction n with
          | zero => intro st x1 x2 x3 x4 h; exact h.elim
          | succ n ih =>
            intro st x1 x2 x3 x4 h
            unfold wp_Mo_strengthAt_45 at h
            refine jr_iload_n (q := 2) C dMo_strengthAt_45 rfl rfl ?_
            refine jr_aload_n (q := 0) C dMo_strengthAt_46 rfl rfl ?_
            refine jr_getf (k := 14) C dMo_strengthAt_47 inw_Mo (rfl : kC[5]? = _) (by decide) (List.mem_cons_of_mem _ tm3_143) rfl mA_0 rfl ?_
            refine jr_iload (q := 4) C dMo_strengthAt_50 rfl ?_
            obtain ⟨h4, h⟩ := h
            refine jr_iald (t0 := 0) C dMo_strengthAt_52 mA_9 rfl h4 ?_
            refine jr_icmp_le (tgt := 62) C dMo_strengthAt_53 (by decide) (fun z => ?_) (fun z => ?_)
            · have h := h.1 z
              refine jr_iload_n (q := 2) C dMo_strengthAt_62 rfl rfl ?_
              refine jr_aload_n (q := 0) C dMo_strengthAt_63 rfl rfl ?_
              refine jr_getf (k := 14) C dMo_strengthAt_64 inw_Mo (rfl : kC[5]? = _) (by decide) (List.mem_cons_of_mem _ tm3_143) rfl mA_0 rfl ?_
              refine jr_iload (q := 4) C dMo_strengthAt_67 rfl ?_
              obtain ⟨h5, h⟩ := h
              refine jr_iald (t0 := 0) C dMo_strengthAt_69 mA_9 rfl h5 ?_
              refine jr_icmp_ne (tgt := 81) C dMo_strengthAt_70 (by decide) (fun z => ?_) (fun z => ?_)
              · have h := h.1 z
                refine jr_aload_n (q := 0) C dMo_strengthAt_81 rfl rfl ?_
                refine jr_getf (k := 15) C dMo_strengthAt_82 inw_Mo (rfl : kC[5]? = _) (by decide) (List.mem_cons_of_mem _ tm3_144) rfl mA_0 rfl ?_
                refine jr_iload (q := 4) C dMo_strengthAt_85 rfl ?_
                obtain ⟨h6, h⟩ := h
                refine jr_iald (t0 := 0) C dMo_strengthAt_87 mA_10 rfl h6 ?_
                refine jr_aload_n (q := 0) C dMo_strengthAt_88 rfl rfl ?_
                refine jr_getf (k := 15) C dMo_strengthAt_89 inw_Mo (rfl : kC[5]? = _) (by decide) (List.mem_cons_of_mem _ tm3_144) rfl mA_0 rfl ?_
                refine jr_iload (q := 4) C dMo_strengthAt_92 rfl ?_
                refine jr_iconst (v := 1) C dMo_strengthAt_94 (by decide) ?_
                refine jr_isub C dMo_strengthAt_95 ?_
                obtain ⟨h7, h⟩ := h
                refine jr_iald (t0 := 0) C dMo_strengthAt_96 mA_10 rfl h7 ?_
                refine jr_isub C dMo_strengthAt_97 ?_
                refine jr_iload_n (q := 2) C dMo_strengthAt_98 rfl rfl ?_
                refine jr_aload_n (q := 0) C dMo_strengthAt_99 rfl rfl ?_
                refine jr_getf (k := 14) C dMo_strengthAt_100 inw_Mo (rfl : kC[5]? = _) (by decide) (List.mem_cons_of_mem _ tm3_143) rfl mA_0 rfl ?_
                refine jr_iload (q := 4) C dMo_strengthAt_103 rfl ?_
                refine jr_iconst (v := 1) C dMo_strengthAt_105 (by decide) ?_
                refine jr_isub C dMo_strengthAt_106 ?_
                obtain ⟨h8, h⟩ := h
                refine jr_iald (t0 := 0) C dMo_strengthAt_107 mA_9 rfl h8 ?_
                refine jr_isub C dMo_strengthAt_108 ?_
                refine jr_imul C dMo_strengthAt_109 ?_
                refine jr_istore (lv' := [(5, .int (((st 10 (Int32.toNatClampNeg x4)) - (st 10 (Int32.toNatClampNeg (x4 - (1 : Int32))))) * (x2 - (st 9 (Int32.toNatClampNeg (x4 - (1 : Int32))))))), (0, .ref (ad 0)), (1, .int x1), (2, .int x2), (3, .int x3), (4, .int x4)]) C dMo_strengthAt_110 (by decide) rfl ?_
                refine jr_aload_n (q := 1) C dMo_strengthAt_112 rfl rfl ?_
                refine jr_getf (k := 14) C dMo_strengthAt_113 inw_Mo (rfl : kC[5]? = _) (by decide) (List.mem_cons_of_mem _ tm3_143) rfl mA_0 rfl ?_
                refine jr_iload (q := 5) C dMo_strengthAt_116 rfl ?_
                obtain ⟨h9, h⟩ := h
                refine jr_iald (t0 := 0) C dMo_strengthAt_118 mA_9 rfl h9 ?_
                refine jr_aload_n (q := 1) C dMo_strengthAt_119 rfl rfl ?_
                refine jr_getf (k := 14) C dMo_strengthAt_120 inw_Mo (rfl : kC[5]? = _) (by decide) (List.mem_cons_of_mem _ tm3_143) rfl mA_0 rfl ?_
                refine jr_iload (q := 5) C dMo_strengthAt_123 rfl ?_
                refine jr_iconst (v := 1) C dMo_strengthAt_125 (by decide) ?_
                refine jr_isub C dMo_strengthAt_126 ?_
                obtain ⟨h10, h⟩ := h
                refine jr_iald (t0 := 0) C dMo_strengthAt_127 mA_9 rfl h10 ?_
                refine jr_isub C dMo_strengthAt_128 ?_
                refine jr_istore (lv' := [(6, .int ((st 9 (Int32.toNatClampNeg x4)) - (st 9 (Int32.toNatClampNeg (x4 - (1 : Int32)))))), (5, .int (((st 10 (Int32.toNatClampNeg x4)) - (st 10 (Int32.toNatClampNeg (x4 - (1 : Int32))))) * (x2 - (st 9 (Int32.toNatClampNeg (x4 - (1 : Int32))))))), (0, .ref (ad 0)), (1, .int x1), (2, .int x2), (3, .int x3), (4, .int x4)]) C dMo_strengthAt_129 (by decide) rfl ?_
                refine jr_iload (q := 1) C dMo_strengthAt_131 rfl ?_
                refine jr_iload (q := 0) C dMo_strengthAt_133 rfl ?_
                obtain ⟨h11, h⟩ := h
                refine jr_idiv C dMo_strengthAt_135 h11 ?_
                refine jr_istore (lv' := [(7, .int ((((st 10 (Int32.toNatClampNeg x4)) - (st 10 (Int32.toNatClampNeg (x4 - (1 : Int32))))) * (x2 - (st 9 (Int32.toNatClampNeg (x4 - (1 : Int32)))))) / ((st 9 (Int32.toNatClampNeg x4)) - (st 9 (Int32.toNatClampNeg (x4 - (1 : Int32))))))), (6, .int ((st 9 (Int32.toNatClampNeg x4)) - (st 9 (Int32.toNatClampNeg (x4 - (1 : Int32)))))), (5, .int (((st 10 (Int32.toNatClampNeg x4)) - (st 10 (Int32.toNatClampNeg (x4 - (1 : Int32))))) * (x2 - (st 9 (Int32.toNatClampNeg (x4 - (1 : Int32))))))), (0, .ref (ad 0)), (1, .int x1), (2, .int x2), (3, .int x3), (4, .int x4)]) C dMo_strengthAt_136 (by decide) rfl ?_
                refine jr_aload_n (q := 3) C dMo_strengthAt_138 rfl rfl ?_
                refine jr_getf (k := 15) C dMo_strengthAt_139 inw_Mo (rfl : kC[5]? = _) (by decide) (List.mem_cons_of_mem _ tm3_144) rfl mA_0 rfl ?_
                refine jr_iload (q := 7) C dMo_strengthAt_142 rfl ?_
                refine jr_iconst (v := 1) C dMo_strengthAt_144 (by decide) ?_
                refine jr_isub C dMo_strengthAt_145 ?_
                obtain ⟨h12, h⟩ := h
                refine jr_iald (t0 := 0) C dMo_strengthAt_146 mA_10 rfl h12 ?_
                refine jr_iload (q := 2) C dMo_strengthAt_147 rfl ?_
                refine jr_if_ge (tgt := 169) C dMo_strengthAt_149 (by decide) (fun z => ?_) (fun z => ?_)
                · have h := h.1 z
                  refine jr_iload (q := 0) C dMo_strengthAt_169 rfl ?_
                  refine jr_iadd C dMo_strengthAt_171 ?_
                  exact jr_reti C hr hlocks dMo_strengthAt_172 h rfl
                · have h := h.2 z
                  refine jr_iload (q := 0) C dMo_strengthAt_152 rfl ?_
                  refine jr_iload (q := 1) C dMo_strengthAt_154 rfl ?_
                  refine jr_imul C dMo_strengthAt_156 ?_
                  refine jr_iload (q := 2) C dMo_strengthAt_157 rfl ?_
                  refine jr_icmp_eq (tgt := 169) C dMo_strengthAt_159 (by decide) (fun z => ?_) (fun z => ?_)
                  · have h := h.1 z
                    refine jr_iload (q := 0) C dMo_strengthAt_169 rfl ?_
                    refine jr_iadd C dMo_strengthAt_171 ?_
                    exact jr_reti C hr hlocks dMo_strengthAt_172 h rfl
                  · have h := h.2 z
                    refine jr_iload (q := 0) C dMo_strengthAt_162 rfl ?_
                    refine jr_iconst (v := 1) C dMo_strengthAt_164 (by decide) ?_
                    refine jr_isub C dMo_strengthAt_165 ?_
                    refine jr_goto (tgt := 171) C dMo_strengthAt_166 (by decide) ?_
                    refine jr_iadd C dMo_strengthAt_171 ?_
                    exact jr_reti C hr hlocks dMo_strengthAt_172 h rfl
              · have h := h.2 z
                refine jr_aload_n (q := 0) C dMo_strengthAt_73 rfl rfl ?_
                refine jr_getf (k := 15) C dMo_strengthAt_74 inw_Mo (rfl : kC[5]? = _) (by decide) (List.mem_cons_of_mem _ tm3_144) rfl mA_0 rfl ?_
                refine jr_iload (q := 4) C dMo_strengthAt_77 rfl ?_
                obtain ⟨h13, h⟩ := h
                refine jr_iald (t0 := 0) C dMo_strengthAt_79 mA_10 rfl h13 ?_
                exact jr_reti C hr hlocks dMo_strengthAt_80 h rfl
            · have h := h.2 z
              refine jr_iinc (q := 4) (v := (x4 + (1 : Int32))) (lv' := [(4, .int (x4 + (1 : Int32))), (0, .ref (ad 0)), (1, .int x1), (2, .int x2), (3, .int x3)]) C dMo_strengthAt_56 rfl rfl (by decide) rfl ?_
              refine jr_goto (tgt := 45) C dMo_strengthAt_59 (by decide) ?_
              refine jr_lv (lv' := [(0, .ref (ad 0)), (1, .int x1), (2, .int x2), (3, .int x3), (4, .int (x4 + (1 : Int32)))]) [1, 2, 3, 4, 0] rfl ?_
              exact ih st x1 x2 x3 (x4 + (1 : Int32)) h
        obtain ⟨n15, h⟩ := h
        refine jr_lv (lv' := [(0, .ref (ad 0)), (1, .int l1), (2, .int l2), (3, .int (st 8 (Int32.toNatClampNeg l1))), (4, .int ((6 : Int32) * l1))]) [2, 3, 4, 1, 0] rfl ?_
        exact lp14 n15 st l1 l2 (st 8 (Int32.toNatClampNeg l1)) ((6 : Int32) * l1) h
      · have h := h.2 z
        refine jr_iconst (v := -1) C dMo_strengthAt_43 (by decide) ?_
        exact jr_reti C hr hlocks dMo_strengthAt_44 h rfl
def wp_Mo_strength (st : jS) (l1 : Int32) (l2 : Int32) (post : Int32 → jS → Prop) : Prop :=
  wp_Mo_isKind st l1 (fun r2 st1 => (∃ j3 : Int32 → Prop, (∀ (v4 : Int32), j3 v4 → ((((jq st1 0 0 v4) 0 0) ≤ 0 → wp_Mo_strengthAt (jq st1 0 0 v4) l1 l2 (fun r6 st5 => post r6 st5)) ∧ (¬ ((jq st1 0 0 v4) 0 0) ≤ 0 → post (0 : Int32) (jq st1 0 0 v4)))) ∧ ((¬ r2 = 0 → j3 (0 : Int32)) ∧ (r2 = 0 → j3 (1 : Int32)))))
set_option maxRecDepth 100000 in
set_option maxHeartbeats 4000000 in
theorem c_Mo_strength {st : jS} {l1 : Int32} {l2 : Int32} {post : Int32 → jS → Prop} (h : wp_Mo_strength st l1 l2 post) : jr_Mi l yMo_strength wMo_strength ({ frames := 2, cells := 0, slots := 0, locals := 43 }) [.ref (ad 0), .int l1, .int l2] D kC (kT cI cII cL cJ) (mW cI ad fr st) (mW cI ad fr) post := by
  refine jr_ofi (cc := bMo_strength) (nL := 3) (lv := [(0, .ref (ad 0)), (1, .int l1), (2, .int l2)]) (by decide) rfl (Nat.le_of_ble_eq_true rfl) rfl (fun p e s m args below meth c A C hr hlocks => ?_)
  unfold wp_Mo_strength at h
  refine jr_aload_n (q := 0) C dMo_strength_0 rfl rfl ?_
  refine jr_aload_n (q := 0) C dMo_strength_1 rfl rfl ?_
  refine jr_iload_n (q := 1) C dMo_strength_2 rfl rfl ?_
  refine jr_callVi (As := [.int l1]) (rest := [.ref (ad 0)]) C (c_Mo_isKind h) (cwV 1 C.2.2.2.2.1 (tg_V tm3_189 tm3_191 tp_18 tm1_7 tm3_192) rfl rfl rfl ⟨rfl, by decide, by decide, by decide⟩ ⟨Nat.le_of_ble_eq_true rfl, Nat.le_of_ble_eq_true rfl⟩) dMo_strength_3 (rfl : kC[5]? = _) mA_0 rfl rfl (Nat.le_of_ble_eq_true rfl) ⟨Nat.le_of_ble_eq_true rfl, Nat.le_of_ble_eq_true rfl⟩ (fun r2 st1 h => ?_)
  obtain ⟨j3, j3r, h⟩ := h
  have hj3 : ∀ (v4 : Int32), j3 v4 → jr_J p l e (headSpec wMo_strength ({ frames := 2, cells := 0, slots := 0, locals := 43 })).room s m args below meth c A D kC 3 0 0 (MQ below (va_Qi post (jr_B D kC (kT cI cII cL cJ) (mW cI ad fr) A) A) args s 0 0 A) (mW cI ad fr st1) 14 [(0, .ref (ad 0)), (1, .int l1), (2, .int l2)] [.int v4, .ref (ad 0)] := by
    intro v4 h
    have h := j3r v4 h
    refine jr_putf (k := 0) C dMo_strength_14 inw_Mo ty_Mo ty_Mo_ok nm_Mo (rfl : kC[5]? = _) (by decide) (List.mem_cons_of_mem _ tm3_129) rfl rfl (ty := .int) rfl rfl rfl mA_0 (Nat.le_of_ble_eq_true rfl) ?_
    refine jr_ws (ws' := mW cI ad fr (jq st1 0 0 v4)) (mP_0_0) ?_
    refine jr_aload_n (q := 0) C dMo_strength_17 rfl rfl ?_
    refine jr_getf (k := 0) C dMo_strength_18 inw_Mo (rfl : kC[5]? = _) (by decide) (List.mem_cons_of_mem _ tm3_129) rfl mA_0 rfl ?_
    refine jr_if_le (tgt := 28) C dMo_strength_21 (by decide) (fun z => ?_) (fun z => ?_)
    · have h := h.1 z
      refine jr_aload_n (q := 0) C dMo_strength_28 rfl rfl ?_
      refine jr_iload_n (q := 1) C dMo_strength_29 rfl rfl ?_
      refine jr_iload_n (q := 2) C dMo_strength_30 rfl rfl ?_
      refine jr_callVi (As := [.int l1, .int l2]) (rest := []) C (c_Mo_strengthAt h) (cwV 2 C.2.2.2.2.1 (tg_V tm4_94 tm4_96 tp_31 tm1_7 tm4_97) rfl rfl rfl ⟨rfl, by decide, by decide, by decide⟩ ⟨Nat.le_of_ble_eq_true rfl, Nat.le_of_ble_eq_true rfl⟩) dMo_strength_31 (rfl : kC[5]? = _) mA_0 rfl rfl (Nat.le_of_ble_eq_true rfl) ⟨Nat.le_of_ble_eq_true rfl, Nat.le_of_ble_eq_true rfl⟩ (fun r6 st5 h => ?_)
      exact jr_reti C hr hlocks dMo_strength_34 h rfl
    · have h := h.2 z
      refine jr_iconst (v := 0) C dMo_strength_24 (by decide) ?_
      refine jr_goto (tgt := 34) C dMo_strength_25 (by decide) ?_
      exact jr_reti C hr hlocks dMo_strength_34 h rfl
  refine jr_if_ne (tgt := 13) C dMo_strength_6 (by decide) (fun z => ?_) (fun z => ?_)
  · have h := h.1 z
    refine jr_iconst (v := 0) C dMo_strength_13 (by decide) ?_
    refine jr_lv (lv' := [(0, .ref (ad 0)), (1, .int l1), (2, .int l2)]) [0, 1, 2] rfl ?_
    exact hj3 (0 : Int32) h
  · have h := h.2 z
    refine jr_iconst (v := 1) C dMo_strength_9 (by decide) ?_
    refine jr_goto (tgt := 14) C dMo_strength_10 (by decide) ?_
    refine jr_lv (lv' := [(0, .ref (ad 0)), (1, .int l1), (2, .int l2)]) [0, 1, 2] rfl ?_
    exact hj3 (1 : Int32) h
def wp_Mo_length_28 (post : Int32 → jS → Prop) : Nat → jS → Int32 → Int32 → Int32 → Prop
  | 0 => fun _ _ _ _ => False
  | n + 1 => fun st x1 x2 x3 => (((1000 : Int32) < x3 → post (-1 : Int32) st) ∧ (¬ (1000 : Int32) < x3 → wp_Mo_strengthAt st x1 x3 (fun r6 st5 => ((r6 = (-1 : Int32) → wp_Mo_length_28 post n st5 x1 x2 (x3 + (1 : Int32))) ∧ (¬ r6 = (-1 : Int32) → ((r6 < x2 → wp_Mo_length_28 post n st5 x1 x2 (x3 + (1 : Int32))) ∧ (¬ r6 < x2 → post x3 st5)))))))
def wp_Mo_length (st : jS) (l1 : Int32) (l2 : Int32) (post : Int32 → jS → Prop) : Prop :=
  wp_Mo_isKind st l1 (fun r2 st1 => (∃ j3 : Int32 → Prop, (∀ (v4 : Int32), j3 v4 → ((((jq st1 0 0 v4) 0 0) ≤ 0 → (∃ n9, wp_Mo_length_28 post n9 (jq st1 0 0 v4) l1 l2 (1 : Int32))) ∧ (¬ ((jq st1 0 0 v4) 0 0) ≤ 0 → post (0 : Int32) (jq st1 0 0 v4)))) ∧ ((¬ r2 = 0 → j3 (0 : Int32)) ∧ (r2 = 0 → j3 (1 : Int32)))))
set_option maxRecDepth 100000 in
set_option maxHeartbeats 4000000 in
theorem c_Mo_length {st : jS} {l1 : Int32} {l2 : Int32} {post : Int32 → jS → Prop} (h : wp_Mo_length st l1 l2 post) : jr_Mi l yMo_length wMo_length ({ frames := 2, cells := 0, slots := 0, locals := 43 }) [.ref (ad 0), .int l1, .int l2] D kC (kT cI cII cL cJ) (mW cI ad fr st) (mW cI ad fr) post := by
  refine jr_ofi (cc := bMo_length) (nL := 5) (lv := [(0, .ref (ad 0)), (1, .int l1), (2, .int l2)]) (by decide) rfl (Nat.le_of_ble_eq_true rfl) rfl (fun p e s m args below meth c A C hr hlocks => ?_)
  unfold wp_Mo_length at h
  refine jr_aload_n (q := 0) C dMo_length_0 rfl rfl ?_
  refine jr_aload_n (q := 0) C dMo_length_1 rfl rfl ?_
  refine jr_iload_n (q := 1) C dMo_length_2 rfl rfl ?_
  refine jr_callVi (As := [.int l1]) (rest := [.ref (ad 0)]) C (c_Mo_isKind h) (cwV 1 C.2.2.2.2.1 (tg_V tm3_189 tm3_191 tp_18 tm1_7 tm3_192) rfl rfl rfl ⟨rfl, by decide, by decide, by decide⟩ ⟨Nat.le_of_ble_eq_true rfl, Nat.le_of_ble_eq_true rfl⟩) dMo_length_3 (rfl : kC[5]? = _) mA_0 rfl rfl (Nat.le_of_ble_eq_true rfl) ⟨Nat.le_of_ble_eq_true rfl, Nat.le_of_ble_eq_true rfl⟩ (fun r2 st1 h => ?_)
  obtain ⟨j3, j3r, h⟩ := h
  have hj3 : ∀ (v4 : Int32), j3 v4 → jr_J p l e (headSpec wMo_length ({ frames := 2, cells := 0, slots := 0, locals := 43 })).room s m args below meth c A D kC 5 0 0 (MQ below (va_Qi post (jr_B D kC (kT cI cII cL cJ) (mW cI ad fr) A) A) args s 0 0 A) (mW cI ad fr st1) 14 [(0, .ref (ad 0)), (1, .int l1), (2, .int l2)] [.int v4, .ref (ad 0)] := by
    intro v4 h
    have h := j3r v4 h
    refine jr_putf (k := 0) C dMo_length_14 inw_Mo ty_Mo ty_Mo_ok nm_Mo (rfl : kC[5]? = _) (by decide) (List.mem_cons_of_mem _ tm3_129) rfl rfl (ty := .int) rfl rfl rfl mA_0 (Nat.le_of_ble_eq_true rfl) ?_
    refine jr_ws (ws' := mW cI ad fr (jq st1 0 0 v4)) (mP_0_0) ?_
    refine jr_aload_n (q := 0) C dMo_length_17 rfl rfl ?_
    refine jr_getf (k := 0) C dMo_length_18 inw_Mo (rfl : kC[5]? = _) (by decide) (List.mem_cons_of_mem _ tm3_129) rfl mA_0 rfl ?_
    refine jr_if_le (tgt := 26) C dMo_length_21 (by decide) (fun z => ?_) (fun z => ?_)
    · have h := h.1 z
      refine jr_iconst (v := 1) C dMo_length_26 (by decide) ?_
      refine jr_istore_n (lv' := [(3, .int (1 : Int32)), (0, .ref (ad 0)), (1, .int l1), (2, .int l2)]) C dMo_length_27 rfl (by decide) rfl ?_
      have lp7 : ∀ (n : Nat) (st : jS) (x1 : Int32) (x2 : Int32) (x3 : Int32), wp_Mo_length_28 post n st x1 x2 x3 → jr_J p l e (headSpec wMo_length ({ frames := 2, cells := 0, slots := 0, locals := 43 })).room s m args below meth c A D kC 5 0 0 (MQ below (va_Qi post (jr_B D kC (kT cI cII cL cJ) (mW cI ad fr) A) A) args s 0 0 A) (mW cI ad fr st) 28 [(0, .ref (ad 0)), (1, .int x1), (2, .int x2), (3, .int x3)] [] := by
        intro n
        induction n with
        | zero => intro st x1 x2 x3 h; exact h.elim
        | succ n ih =>
          intro st x1 x2 x3 h
          unfold wp_Mo_length_28 at h
          refine jr_iload_n (q := 3) C dMo_length_28 rfl rfl ?_
          refine jr_sipush (v := 1000) C dMo_length_29 (by decide) ?_
          refine jr_icmp_gt (tgt := 63) C dMo_length_32 (by decide) (fun z => ?_) (fun z => ?_)
          · have h := h.1 z
            refine jr_iconst (v := -1) C dMo_length_63 (by decide) ?_
            exact jr_reti C hr hlocks dMo_length_64 h rfl
          · have h := h.2 z
            refine jr_aload_n (q := 0) C dMo_length_35 rfl rfl ?_
            refine jr_iload_n (q := 1) C dMo_length_36 rfl rfl ?_
            refine jr_iload_n (q := 3) C dMo_length_37 rfl rfl ?_
            refine jr_callVi (As := [.int x1, .int x3]) (rest := []) C (c_Mo_strengthAt h) (cwV 2 C.2.2.2.2.1 (tg_V tm4_94 tm4_96 tp_31 tm1_7 tm4_97) rfl rfl rfl ⟨rfl, by decide, by decide, by decide⟩ ⟨Nat.le_of_ble_eq_true rfl, Nat.le_of_ble_eq_true rfl⟩) dMo_length_38 (rfl : kC[5]? = _) mA_0 rfl rfl (Nat.le_of_ble_eq_true rfl) ⟨Nat.le_of_ble_eq_true rfl, Nat.le_of_ble_eq_true rfl⟩ (fun r6 st5 h => ?_)
            refine jr_istore (lv' := [(4, .int r6), (0, .ref (ad 0)), (1, .int x1), (2, .int x2), (3, .int x3)]) C dMo_length_41 (by decide) rfl ?_
            refine jr_iload (q := 0) C dMo_length_43 rfl ?_
            refine jr_iconst (v := -1) C dMo_length_45 (by decide) ?_
            refine jr_icmp_eq (tgt := 57) C dMo_length_46 (by decide) (fun z => ?_) (fun z => ?_)
            · have h := h.1 z
              refine jr_iinc (q := 4) (v := (x3 + (1 : Int32))) (lv' := [(3, .int (x3 + (1 : Int32))), (4, .int r6), (0, .ref (ad 0)), (1, .int x1), (2, .int x2)]) C dMo_length_57 rfl rfl (by decide) rfl ?_
              refine jr_goto (tgt := 28) C dMo_length_60 (by decide) ?_
              refine jr_lv (lv' := [(0, .ref (ad 0)), (1, .int x1), (2, .int x2), (3, .int (x3 + (1 : Int32)))]) [2, 3, 4, 0] rfl ?_
              exact ih st5 x1 x2 (x3 + (1 : Int32)) h
            · have h := h.2 z
              refine jr_iload (q := 0) C dMo_length_49 rfl ?_
              refine jr_iload_n (q := 3) C dMo_length_51 rfl rfl ?_
              refine jr_icmp_lt (tgt := 57) C dMo_length_52 (by decide) (fun z => ?_) (fun z => ?_)
              · have h := h.1 z
                refine jr_iinc (q := 4) (v := (x3 + (1 : Int32))) (lv' := [(3, .int (x3 + (1 : Int32))), (4, .int r6), (0, .ref (ad 0)), (1, .int x1), (2, .int x2)]) C dMo_length_57 rfl rfl (by decide) rfl ?_
                refine jr_goto (tgt := 28) C dMo_length_60 (by decide) ?_
                refine jr_lv (lv' := [(0, .ref (ad 0)), (1, .int x1), (2, .int x2), (3, .int (x3 + (1 : Int32)))]) [2, 3, 4, 0] rfl ?_
                exact ih st5 x1 x2 (x3 + (1 : Int32)) h
              · have h := h.2 z
                refine jr_iload_n (q := 4) C dMo_length_55 rfl rfl ?_
                exact jr_reti C hr hlocks dMo_length_56 h rfl
      obtain ⟨n8, h⟩ := h
      refine jr_lv (lv' := [(0, .ref (ad 0)), (1, .int l1), (2, .int l2), (3, .int (1 : Int32))]) [1, 2, 3, 0] rfl ?_
      exact lp7 n8 (jq st1 0 0 v4) l1 l2 (1 : Int32) h
    · have h := h.2 z
      refine jr_iconst (v := 0) C dMo_length_24 (by decide) ?_
      exact jr_reti C hr hlocks dMo_length_25 h rfl
  refine jr_if_ne (tgt := 13) C dMo_length_6 (by decide) (fun z => ?_) (fun z => ?_)
  · have h := h.1 z
    refine jr_iconst (v := 0) C dMo_length_13 (by decide) ?_
    refine jr_lv (lv' := [(0, .ref (ad 0)), (1, .int l1), (2, .int l2)]) [0, 1, 2] rfl ?_
    exact hj3 (0 : Int32) h
  · have h := h.2 z
    refine jr_iconst (v := 1) C dMo_length_9 (by decide) ?_
    refine jr_goto (tgt := 14) C dMo_length_10 (by decide) ?_
    refine jr_lv (lv' := [(0, .ref (ad 0)), (1, .int l1), (2, .int l2)]) [0, 1, 2] rfl ?_
    exact hj3 (1 : Int32) h
def wp_Mo_count_9 (post : Int32 → jS → Prop) : Nat → jS → Int32 → Int32 → Int32 → Prop
  | 0 => fun _ _ _ _ => False
  | n + 1 => fun st x1 x2 x3 => (((st 0 4) ≤ x3 → ((x1 = (0 : Int32) → post (st 0 4) st) ∧ (x1 = (1 : Int32) → post x2 st) ∧ (x1 = (2 : Int32) → post (st 0 9) st) ∧ (x1 = (3 : Int32) → post (st 0 1) st) ∧ (x1 = (4 : Int32) → post (st 0 2) st) ∧ (¬ x1 = (0 : Int32) → ¬ x1 = (1 : Int32) → ¬ x1 = (2 : Int32) → ¬ x1 = (3 : Int32) → ¬ x1 = (4 : Int32) → post (-1 : Int32) st))) ∧ (¬ (st 0 4) ≤ x3 → vp_in x3 24 ∧ (((st 2 (Int32.toNatClampNeg x3)) = (-1 : Int32) → wp_Mo_count_9 post n st x1 x2 (x3 + (1 : Int32))) ∧ (¬ (st 2 (Int32.toNatClampNeg x3)) = (-1 : Int32) → wp_Mo_count_9 post n st x1 (x2 + (1 : Int32)) (x3 + (1 : Int32))))))
def wp_Mo_count (st : jS) (l1 : Int32) (post : Int32 → jS → Prop) : Prop :=
  (∃ n4, wp_Mo_count_9 post n4 (jq st 0 0 (0 : Int32)) l1 (0 : Int32) (0 : Int32))
set_option maxRecDepth 100000 in
set_option maxHeartbeats 4000000 in
theorem c_Mo_count {st : jS} {l1 : Int32} {post : Int32 → jS → Prop} (h : wp_Mo_count st l1 post) : jr_Mi l yMo_count wMo_count ({ frames := 0, cells := 0, slots := 0, locals := 0 }) [.ref (ad 0), .int l1] D kC (kT cI cII cL cJ) (mW cI ad fr st) (mW cI ad fr) post := by
  refine jr_ofi (cc := bMo_count) (nL := 4) (lv := [(0, .ref (ad 0)), (1, .int l1)]) (by decide) rfl (Nat.le_of_ble_eq_true rfl) rfl (fun p e s m args below meth c A C hr hlocks => ?_)
  unfold wp_Mo_count at h
  refine jr_aload_n (q := 0) C dMo_count_0 rfl rfl ?_
  refine jr_iconst (v := 0) C dMo_count_1 (by decide) ?_
  refine jr_putf (k := 0) C dMo_count_2 inw_Mo ty_Mo ty_Mo_ok nm_Mo (rfl : kC[5]? = _) (by decide) (List.mem_cons_of_mem _ tm3_129) rfl rfl (ty := .int) rfl rfl rfl mA_0 (Nat.le_of_ble_eq_true rfl) ?_
  refine jr_ws (ws' := mW cI ad fr (jq st 0 0 (0 : Int32))) (mP_0_0) ?_
  refine jr_iconst (v := 0) C dMo_count_5 (by decide) ?_
  refine jr_istore_n (lv' := [(2, .int (0 : Int32)), (0, .ref (ad 0)), (1, .int l1)]) C dMo_count_6 rfl (by decide) rfl ?_
  refine jr_iconst (v := 0) C dMo_count_7 (by decide) ?_
  refine jr_istore_n (lv' := [(3, .int (0 : Int32)), (2, .int (0 : Int32)), (0, .ref (ad 0)), (1, .int l1)]) C dMo_count_8 rfl (by decide) rfl ?_
  have lp2 : ∀ (n : Nat) (st : jS) (x1 : Int32) (x2 : Int32) (x3 : Int32), wp_Mo_count_9 post n st x1 x2 x3 → jr_J p l e (headSpec wMo_count ({ frames := 0, cells := 0, slots := 0, locals := 0 })).room s m args below meth c A D kC 4 0 0 (MQ below (va_Qi post (jr_B D kC (kT cI cII cL cJ) (mW cI ad fr) A) A) args s 0 0 A) (mW cI ad fr st) 9 [(0, .ref (ad 0)), (1, .int x1), (2, .int x2), (3, .int x3)] [] := by
    intro n
    induction n with
    | zero => intro st x1 x2 x3 h; exact h.elim
    | succ n ih =>
      intro st x1 x2 x3 h
      unfold wp_Mo_count_9 at h
      refine jr_iload_n (q := 3) C dMo_count_9 rfl rfl ?_
      refine jr_aload_n (q := 0) C dMo_count_10 rfl rfl ?_
      refine jr_getf (k := 4) C dMo_count_11 inw_Mo (rfl : kC[5]? = _) (by decide) (List.mem_cons_of_mem _ tm3_133) rfl mA_0 rfl ?_
      refine jr_icmp_ge (tgt := 41) C dMo_count_14 (by decide) (fun z => ?_) (fun z => ?_)
      · have h := h.1 z
        refine jr_iload_n (q := 1) C dMo_count_41 rfl rfl ?_
        by_cases z0 : x1 = (0 : Int32)
        · have h := h.1 z0
          refine jr_tblIn (tgt := 76) C dMo_count_42 (by rw [z0]; decide) (by rw [z0]; decide) (by rw [z0]; rfl) (by decide) ?_
          refine jr_aload_n (q := 0) C dMo_count_76 rfl rfl ?_
          refine jr_getf (k := 4) C dMo_count_77 inw_Mo (rfl : kC[5]? = _) (by decide) (List.mem_cons_of_mem _ tm3_133) rfl mA_0 rfl ?_
          exact jr_reti C hr hlocks dMo_count_80 h rfl
        by_cases z1 : x1 = (1 : Int32)
        · have h := h.2.1 z1
          refine jr_tblIn (tgt := 81) C dMo_count_42 (by rw [z1]; decide) (by rw [z1]; decide) (by rw [z1]; rfl) (by decide) ?_
          refine jr_iload_n (q := 2) C dMo_count_81 rfl rfl ?_
          exact jr_reti C hr hlocks dMo_count_82 h rfl
        by_cases z2 : x1 = (2 : Int32)
        · have h := h.2.2.1 z2
          refine jr_tblIn (tgt := 83) C dMo_count_42 (by rw [z2]; decide) (by rw [z2]; decide) (by rw [z2]; rfl) (by decide) ?_
          refine jr_aload_n (q := 0) C dMo_count_83 rfl rfl ?_
          refine jr_getf (k := 9) C dMo_count_84 inw_Mo (rfl : kC[5]? = _) (by decide) (List.mem_cons_of_mem _ tm3_138) rfl mA_0 rfl ?_
          exact jr_reti C hr hlocks dMo_count_87 h rfl
        by_cases z3 : x1 = (3 : Int32)
        · have h := h.2.2.2.1 z3
          refine jr_tblIn (tgt := 88) C dMo_count_42 (by rw [z3]; decide) (by rw [z3]; decide) (by rw [z3]; rfl) (by decide) ?_
          refine jr_aload_n (q := 0) C dMo_count_88 rfl rfl ?_
          refine jr_getf (k := 1) C dMo_count_89 inw_Mo (rfl : kC[5]? = _) (by decide) (List.mem_cons_of_mem _ tm3_130) rfl mA_0 rfl ?_
          exact jr_reti C hr hlocks dMo_count_92 h rfl
        by_cases z4 : x1 = (4 : Int32)
        · have h := h.2.2.2.2.1 z4
          refine jr_tblIn (tgt := 93) C dMo_count_42 (by rw [z4]; decide) (by rw [z4]; decide) (by rw [z4]; rfl) (by decide) ?_
          refine jr_aload_n (q := 0) C dMo_count_93 rfl rfl ?_
          refine jr_getf (k := 2) C dMo_count_94 inw_Mo (rfl : kC[5]? = _) (by decide) (List.mem_cons_of_mem _ tm3_131) rfl mA_0 rfl ?_
          exact jr_reti C hr hlocks dMo_count_97 h rfl
        have h := h.2.2.2.2.2 z0 z1 z2 z3 z4
        refine jr_tblOut (tgt := 98) C dMo_count_42 (jr_sw5 z0 z1 z2 z3 z4) (by decide) ?_
        refine jr_iconst (v := -1) C dMo_count_98 (by decide) ?_
        exact jr_reti C hr hlocks dMo_count_99 h rfl
      · have h := h.2 z
        refine jr_aload_n (q := 0) C dMo_count_17 rfl rfl ?_
        refine jr_getf (k := 5) C dMo_count_18 inw_Mo (rfl : kC[5]? = _) (by decide) (List.mem_cons_of_mem _ tm3_134) rfl mA_0 rfl ?_
        refine jr_iload_n (q := 3) C dMo_count_21 rfl rfl ?_
        obtain ⟨h1, h⟩ := h
        refine jr_iald (t0 := 0) C dMo_count_22 mA_2 rfl h1 ?_
        refine jr_iconst (v := -1) C dMo_count_23 (by decide) ?_
        refine jr_icmp_eq (tgt := 33) C dMo_count_24 (by decide) (fun z => ?_) (fun z => ?_)
        · have h := h.1 z
          refine jr_iload_n (q := 2) C dMo_count_33 rfl rfl ?_
          refine jr_istore_n (lv' := [(2, .int x2), (0, .ref (ad 0)), (1, .int x1), (3, .int x3)]) C dMo_count_34 rfl (by decide) rfl ?_
          refine jr_iinc (q := 3) (v := (x3 + (1 : Int32))) (lv' := [(3, .int (x3 + (1 : Int32))), (2, .int x2), (0, .ref (ad 0)), (1, .int x1)]) C dMo_count_35 rfl rfl (by decide) rfl ?_
          refine jr_goto (tgt := 9) C dMo_count_38 (by decide) ?_
          refine jr_lv (lv' := [(0, .ref (ad 0)), (1, .int x1), (2, .int x2), (3, .int (x3 + (1 : Int32)))]) [2, 3, 1, 0] rfl ?_
          exact ih st x1 x2 (x3 + (1 : Int32)) h
        · have h := h.2 z
          refine jr_iload_n (q := 2) C dMo_count_27 rfl rfl ?_
          refine jr_iconst (v := 1) C dMo_count_28 (by decide) ?_
          refine jr_iadd C dMo_count_29 ?_
          refine jr_goto (tgt := 34) C dMo_count_30 (by decide) ?_
          refine jr_istore_n (lv' := [(2, .int (x2 + (1 : Int32))), (0, .ref (ad 0)), (1, .int x1), (3, .int x3)]) C dMo_count_34 rfl (by decide) rfl ?_
          refine jr_iinc (q := 3) (v := (x3 + (1 : Int32))) (lv' := [(3, .int (x3 + (1 : Int32))), (2, .int (x2 + (1 : Int32))), (0, .ref (ad 0)), (1, .int x1)]) C dMo_count_35 rfl rfl (by decide) rfl ?_
          refine jr_goto (tgt := 9) C dMo_count_38 (by decide) ?_
          refine jr_lv (lv' := [(0, .ref (ad 0)), (1, .int x1), (2, .int (x2 + (1 : Int32))), (3, .int (x3 + (1 : Int32)))]) [2, 3, 1, 0] rfl ?_
          exact ih st x1 (x2 + (1 : Int32)) (x3 + (1 : Int32)) h
  obtain ⟨n3, h⟩ := h
  refine jr_lv (lv' := [(0, .ref (ad 0)), (1, .int l1), (2, .int (0 : Int32)), (3, .int (0 : Int32))]) [2, 3, 1, 0] rfl ?_
  exact lp2 n3 (jq st 0 0 (0 : Int32)) l1 (0 : Int32) (0 : Int32) h
end MO
