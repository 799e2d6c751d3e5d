theorem jr_topi {p : Program} {l : Launch} {e : Env} {R : Room} {s : State} {m : MethodId} {args : Array Value} {below : List Frame} {meth : Method} {c : Code} {A : Nat → Prop} {D : va_G} {cl : List vw_C} {nL cells slots : Nat} {Q : State → Prop} {ws : va_W} {pc : Nat} {lv : List (Nat × Value)} {rest : List Value} {x y : Int32} (h : x = y) (kk : jr_J p l e R s m args below meth c A D cl nL cells slots Q ws pc lv (.int y :: rest)) : jr_J p l e R s m args below meth c A D cl nL cells slots Q ws pc lv (.int x :: rest) := h ▸ kk
section CK
variable {l : Launch} {D : va_G} {cI cII cL cJ : ClassId} {K F : Nat} {w0 : va_W}
set_option maxRecDepth 100000 in
set_option maxHeartbeats 4000000 in
theorem k_KT (hK1 : 1 ≤ K) (hK6 : K ≤ 6) (hF4 : 4 ≤ F) (hF11 : F ≤ 11) {l1 l2 : Int32} (hKe : kC1 l1 = nI K) (hFe : kC2 l2 = nI F) (h : Nat) : jr_Kv l yKT_init wKT_init ({ frames := 2, cells := 68, slots := 591, locals := 60 }) [.ref h, .int l1, .int l2] D kC (kT cI cII cL cJ) ([] ++ [(h, .inr (0, [.int 0, .int 0, .null, .null, .null, .null]))]) (fun ad : Nat → Nat => kW cI cII cL ad K F [] (kS0 K F)) (fun ad => ad 0 = h) 68 591 := by
  refine jr_ofK (cc := bKT_init) (nL := 4) (lv := [(0, .ref h), (1, .int l1), (2, .int l2)]) (by decide) rfl rfl (Nat.le_of_ble_eq_true rfl) rfl (fun p e s m args below meth c A C hr hlocks hin hA9 => ?_)
  refine jr_aload_n (q := 0) C dKT_init_0 rfl rfl ?_
  refine jr_oinit C (List.mem_cons_of_mem _ tm1_19) (List.mem_cons_of_mem _ tm1_20) (List.mem_cons_of_mem _ tm1_21) dKT_init_1 (Nat.le_of_ble_eq_true rfl) (Nat.le_of_ble_eq_true rfl) ?_
  refine jr_aload_n (q := 0) C dKT_init_4 rfl rfl ?_
  refine jr_iconst (v := 1) C dKT_init_5 (by decide) ?_
  refine jr_bipush (v := 6) C dKT_init_6 (by decide) ?_
  refine jr_iload_n (q := 1) C dKT_init_8 rfl rfl ?_
  refine jr_mmin C (List.mem_cons_of_mem _ tm1_22) (List.mem_cons_of_mem _ tm1_23) (List.mem_cons_of_mem _ tm1_2) (List.mem_cons_of_mem _ tm1_24) dKT_init_9 (Nat.le_of_ble_eq_true rfl) (Nat.le_of_ble_eq_true rfl) (by show _ ≤ 68; omega) (by show _ ≤ 591; omega) ?_
  refine jr_mmax C (List.mem_cons_of_mem _ tm1_25) (List.mem_cons_of_mem _ tm1_26) (List.mem_cons_of_mem _ tm1_2) (List.mem_cons_of_mem _ tm1_27) dKT_init_12 (Nat.le_of_ble_eq_true rfl) (Nat.le_of_ble_eq_true rfl) (by show _ ≤ 68; omega) (by show _ ≤ 591; omega) ?_
  refine jr_topi hKe ?_
  refine jr_putfF (k := 0) C hin dKT_init_15 inw_KT ty_KT ty_KT_ok nm_KT (rfl : kC[0]? = _) (by decide) (List.mem_cons_of_mem _ tm1_132) rfl rfl rfl (ty := ty_KT 0) (by decide +kernel) rfl rfl (cl_at (j := 0) rfl) (Nat.le_of_ble_eq_true rfl) ?_
  refine jr_ws cl_set ?_
  refine jr_aload_n (q := 0) C dKT_init_18 rfl rfl ?_
  refine jr_iconst (v := 1) C dKT_init_19 (by decide) ?_
  refine jr_bipush (v := 8) C dKT_init_20 (by decide) ?_
  refine jr_iload_n (q := 2) C dKT_init_22 rfl rfl ?_
  refine jr_mmin C (List.mem_cons_of_mem _ tm1_22) (List.mem_cons_of_mem _ tm1_23) (List.mem_cons_of_mem _ tm1_2) (List.mem_cons_of_mem _ tm1_24) dKT_init_23 (Nat.le_of_ble_eq_true rfl) (Nat.le_of_ble_eq_true rfl) (by show _ ≤ 68; omega) (by show _ ≤ 591; omega) ?_
  refine jr_mmax C (List.mem_cons_of_mem _ tm1_25) (List.mem_cons_of_mem _ tm1_26) (List.mem_cons_of_mem _ tm1_2) (List.mem_cons_of_mem _ tm1_27) dKT_init_26 (Nat.le_of_ble_eq_true rfl) (Nat.le_of_ble_eq_true rfl) (by show _ ≤ 68; omega) (by show _ ≤ 591; omega) ?_
  refine jr_iconst (v := 3) C dKT_init_29 (by decide) ?_
  refine jr_iadd C dKT_init_30 ?_
  refine jr_topi hFe ?_
  refine jr_putfF (k := 1) C hin dKT_init_31 inw_KT ty_KT ty_KT_ok nm_KT (rfl : kC[0]? = _) (by decide) (List.mem_cons_of_mem _ tm1_133) rfl rfl rfl (ty := ty_KT 1) (by decide +kernel) rfl rfl (cl_at (j := 0) rfl) (Nat.le_of_ble_eq_true rfl) ?_
  refine jr_ws cl_set ?_
  refine jr_aload_n (q := 0) C dKT_init_34 rfl rfl ?_
  refine jr_new (fs := [.int 0, .null, .null, .null, .null, .int 0]) C dKT_init_35 inw_Ex ty_Ex ty_Ex_ok (List.mem_cons_of_mem _ tm1_28) (List.mem_cons_of_mem _ tm1_29) (List.mem_cons_of_mem _ tm1_3) (rfl : kC[1]? = _) dv_Ex (by show _ ≤ 68; omega) (by show _ ≤ 591; omega) (fun q1 => ?_)
  refine jr_dup C dKT_init_38 rfl ?_
  refine jr_aload_n (q := 0) C dKT_init_39 rfl rfl ?_
  refine jr_getf (k := 1) (v := .int (nI F)) C dKT_init_40 inw_KT (rfl : kC[0]? = _) (by decide) (List.mem_cons_of_mem _ tm1_133) rfl (cl_at0 (cl_at (j := 0) rfl)) rfl ?_
  refine jr_callI (mc := 28) (ms := 347) (As := [.int (nI F)]) (rest := [.ref q1, .ref h]) C hA9 (k_Ex hF11 q1) (cwI 1 C.2.2.2.2.1 (tg_N tm1_32) rfl rfl rfl (C.2.2.2.2.1 _ (List.mem_cons_of_mem _ tm1_3)) (C.2.2.2.2.1 _ (List.mem_cons_of_mem _ tm1_30)) (C.2.2.2.2.1 _ (List.mem_cons_of_mem _ tm1_31)) rfl ⟨by decide, by decide, by decide⟩ ⟨Nat.le_of_ble_eq_true rfl, Nat.le_of_ble_eq_true rfl⟩) dKT_init_43 rfl rfl (Nat.le_of_ble_eq_true rfl) ⟨(by show _ ≤ 68; omega), (by show _ ≤ 591; omega)⟩ (fun e9 _ => ?_)
  refine jr_ws cl_app ?_
  refine jr_putfF (k := 2) C hin dKT_init_46 inw_KT ty_KT ty_KT_ok nm_KT (rfl : kC[0]? = _) (by decide) (List.mem_cons_of_mem _ tm1_134) rfl rfl rfl (ty := ty_KT 2) (by decide +kernel) rfl rfl (cl_at (j := 0) rfl) (Nat.le_of_ble_eq_true rfl) ?_
  refine jr_ws cl_set ?_
  refine jr_aload_n (q := 0) C dKT_init_49 rfl rfl ?_
  refine jr_new (fs := [.null, .int 0, .null, .null, .null, .int 0]) C dKT_init_50 inw_Te ty_Te ty_Te_ok (List.mem_cons_of_mem _ tm1_63) (List.mem_cons_of_mem _ tm1_64) (List.mem_cons_of_mem _ tm1_4) (rfl : kC[2]? = _) dv_Te (by show _ ≤ 68; omega) (by show _ ≤ 591; omega) (fun q2 => ?_)
  refine jr_dup C dKT_init_53 rfl ?_
  refine jr_aload_n (q := 0) C dKT_init_54 rfl rfl ?_
  refine jr_getf (k := 2) (v := .ref q1) C dKT_init_55 inw_KT (rfl : kC[0]? = _) (by decide) (List.mem_cons_of_mem _ tm1_134) rfl (cl_at0 (cl_at (j := 0) rfl)) rfl ?_
  refine jr_aload_n (q := 0) C dKT_init_58 rfl rfl ?_
  refine jr_getf (k := 0) (v := .int (nI K)) C dKT_init_59 inw_KT (rfl : kC[0]? = _) (by decide) (List.mem_cons_of_mem _ tm1_132) rfl (cl_at0 (cl_at (j := 0) rfl)) rfl ?_
  refine jr_callI (mc := 3) (ms := 23) (As := [.ref q1, .int (nI K)]) (rest := [.ref q2, .ref h]) C hA9 (k_Te hK6 hF11 q2 q1 _ (cl_at (j := 1) rfl) rfl) (cwI 2 C.2.2.2.2.1 (tg_N tm1_67) rfl rfl rfl (C.2.2.2.2.1 _ (List.mem_cons_of_mem _ tm1_4)) (C.2.2.2.2.1 _ (List.mem_cons_of_mem _ tm1_65)) (C.2.2.2.2.1 _ (List.mem_cons_of_mem _ tm1_66)) rfl ⟨by decide, by decide, by decide⟩ ⟨Nat.le_of_ble_eq_true rfl, Nat.le_of_ble_eq_true rfl⟩) dKT_init_62 rfl rfl (Nat.le_of_ble_eq_true rfl) ⟨(by show _ ≤ 68; omega), (by show _ ≤ 591; omega)⟩ (fun t9 _ => ?_)
  refine jr_ws cl_app ?_
  refine jr_putfF (k := 3) C hin dKT_init_65 inw_KT ty_KT ty_KT_ok nm_KT (rfl : kC[0]? = _) (by decide) (List.mem_cons_of_mem _ tm1_135) rfl rfl rfl (ty := ty_KT 3) (by decide +kernel) rfl rfl (cl_at (j := 0) rfl) (Nat.le_of_ble_eq_true rfl) ?_
  refine jr_ws cl_set ?_
  refine jr_aload_n (q := 0) C dKT_init_68 rfl rfl ?_
  refine jr_new (fs := [.int 0, .null, .null, .null, .int 0]) C dKT_init_69 inw_Ha ty_Ha ty_Ha_ok (List.mem_cons_of_mem _ tm1_89) (List.mem_cons_of_mem _ tm1_90) (List.mem_cons_of_mem _ tm1_5) (rfl : kC[3]? = _) dv_Ha (by show _ ≤ 68; omega) (by show _ ≤ 591; omega) (fun q3 => ?_)
  refine jr_dup C dKT_init_72 rfl ?_
  refine jr_aload_n (q := 0) C dKT_init_73 rfl rfl ?_
  refine jr_getf (k := 0) (v := .int (nI K)) C dKT_init_74 inw_KT (rfl : kC[0]? = _) (by decide) (List.mem_cons_of_mem _ tm1_132) rfl (cl_at0 (cl_at (j := 0) rfl)) rfl ?_
  refine jr_callI (mc := 15) (ms := 108) (As := [.int (nI K)]) (rest := [.ref q3, .ref h]) C hA9 (k_Ha hK6 q3) (cwI 1 C.2.2.2.2.1 (tg_N tm1_93) rfl rfl rfl (C.2.2.2.2.1 _ (List.mem_cons_of_mem _ tm1_5)) (C.2.2.2.2.1 _ (List.mem_cons_of_mem _ tm1_91)) (C.2.2.2.2.1 _ (List.mem_cons_of_mem _ tm1_92)) rfl ⟨by decide, by decide, by decide⟩ ⟨Nat.le_of_ble_eq_true rfl, Nat.le_of_ble_eq_true rfl⟩) dKT_init_77 rfl rfl (Nat.le_of_ble_eq_true rfl) ⟨(by show _ ≤ 68; omega), (by show _ ≤ 591; omega)⟩ (fun h9 _ => ?_)
  refine jr_ws cl_app ?_
  refine jr_putfF (k := 4) C hin dKT_init_80 inw_KT ty_KT ty_KT_ok nm_KT (rfl : kC[0]? = _) (by decide) (List.mem_cons_of_mem _ tm1_136) rfl rfl rfl (ty := ty_KT 4) (by decide +kernel) rfl rfl (cl_at (j := 0) rfl) (Nat.le_of_ble_eq_true rfl) ?_
  refine jr_ws cl_set ?_
  refine jr_aload_n (q := 0) C dKT_init_83 rfl rfl ?_
  refine jr_aload_n (q := 0) C dKT_init_84 rfl rfl ?_
  refine jr_getf (k := 0) (v := .int (nI K)) C dKT_init_85 inw_KT (rfl : kC[0]? = _) (by decide) (List.mem_cons_of_mem _ tm1_132) rfl (cl_at (j := 0) rfl) rfl ?_
  refine jr_newL (N9 := K) C dKT_init_88 rfl (List.mem_cons_of_mem _ tm1_114) hA9.2 (nI_pos (by omega)) (nI_clamp (by omega)) (by omega) (by show _ ≤ 68; omega) (by show _ ≤ 591; omega) (fun q4 => ?_)
  refine jr_ws cl_app ?_
  refine jr_putfF (k := 5) C hin dKT_init_91 inw_KT ty_KT ty_KT_ok nm_KT (rfl : kC[0]? = _) (by decide) (List.mem_cons_of_mem _ tm1_137) rfl rfl rfl (ty := ty_KT 5) (by decide +kernel) rfl rfl (cl_at (j := 0) rfl) (Nat.le_of_ble_eq_true rfl) ?_
  refine jr_ws cl_set ?_
  refine jr_iconst (v := 0) C dKT_init_94 (by decide) ?_
  refine jr_istore_n (lv' := [(3, .int 0), (0, .ref h), (1, .int l1), (2, .int l2)]) C dKT_init_95 rfl (by decide) rfl ?_
  have lp : ∀ (n i : Nat) (la : Nat → Nat), i ≤ K → K < i + n → jr_J p l e (headSpec wKT_init ({ frames := 2, cells := 68, slots := 591, locals := 60 })).room s m args below meth c A D kC 4 (0 + 1 + 28 + 1 + 3 + 1 + 15 + 1 + 3 * i) (0 + 6 + 347 + 6 + 23 + 5 + 108 + K + 15 * i) (MQ below (va_Qv (fun ad => ad 0 = h) (jr_B D kC (kT cI cII cL cJ) (fun ad : Nat → Nat => kW cI cII cL ad K F [] (kS0 K F)) A) A) args s 68 591 A) ([] ++ (kTx cI cII cL K F h q1 e9 q2 t9 q3 h9 q4 (larr la i) ++ lcells cI la i)) 96 [(0, .ref h), (1, .int l1), (2, .int l2), (3, .int (nI i))] [] := by
    intro n
    induction n with
    | zero => intro i la h1 h2; exact absurd h2 (by omega)
    | succ n ih =>
      intro i la h1 h2
      refine jr_iload_n (q := 3) C dKT_init_96 rfl rfl ?_
      refine jr_aload_n (q := 0) C dKT_init_97 rfl rfl ?_
      refine jr_getf (k := 0) (v := .int (nI K)) C dKT_init_98 inw_KT (rfl : kC[0]? = _) (by decide) (List.mem_cons_of_mem _ tm1_132) rfl (cl_at (j := 0) rfl) rfl ?_
      refine jr_icmp_ge (tgt := 123) C dKT_init_101 (by decide) (fun z => ?_) (fun z => ?_)
      · have e : i = K := by have := (nI_leI (by omega) (by omega)).mp z; omega
        subst e
        refine jr_perm (ws' := kW cI cII cL (kAd h q1 e9 q2 t9 q3 h9 q4 la) i F [] (kS0 i F)) (fun H hP => hP.by kIx kIx_get) (fun hD => hD.by kIx kIx_get (fun a b _ _ q => kIx_inj a b q)) ?_
        exact jr_retKv (u := kAd h q1 e9 q2 t9 q3 h9 q4 la) C hr hlocks dKT_init_123 (by omega) (by omega) rfl rfl
      · have hlt : i < K := Nat.lt_of_not_le fun q => z (nI_le q (by omega))
        refine jr_aload_n (q := 0) C dKT_init_104 rfl rfl ?_
        refine jr_getf (k := 5) (v := .ref q4) C dKT_init_105 inw_KT (rfl : kC[0]? = _) (by decide) (List.mem_cons_of_mem _ tm1_137) rfl (cl_at (j := 0) rfl) rfl ?_
        refine jr_iload_n (q := 3) C dKT_init_108 rfl rfl ?_
        refine jr_new (fs := [.null, .null, .int 0]) C dKT_init_109 inw_La ty_La ty_La_ok (List.mem_cons_of_mem _ tm1_114) (List.mem_cons_of_mem _ tm1_116) (List.mem_cons_of_mem _ tm1_6) (rfl : kC[4]? = _) dv_La (by show _ ≤ 68; omega) (by show _ ≤ 591; omega) (fun q => ?_)
        refine jr_dup C dKT_init_112 rfl ?_
        refine jr_callI (mc := 2) (ms := 12) (As := []) (rest := [.ref q, .int (nI i), .ref q4]) C hA9 (k_La q) (cwI 0 C.2.2.2.2.1 (tg_N tm1_119) rfl rfl rfl (C.2.2.2.2.1 _ (List.mem_cons_of_mem _ tm1_6)) (C.2.2.2.2.1 _ (List.mem_cons_of_mem _ tm1_117)) (C.2.2.2.2.1 _ (List.mem_cons_of_mem _ tm1_118)) rfl ⟨by decide, by decide, by decide⟩ ⟨Nat.le_of_ble_eq_true rfl, Nat.le_of_ble_eq_true rfl⟩) dKT_init_113 rfl rfl (Nat.le_of_ble_eq_true rfl) ⟨(by show _ ≤ 68; omega), (by show _ ≤ 591; omega)⟩ (fun u _ => ?_)
        have hq9 : ∀ x y : va_W, (x ++ y)[x.length]? = y[0]? := fun x y => by rw [List.getElem?_append_right (Nat.le_refl _), Nat.sub_self]
        refine jr_astL (t0 := 2) C dKT_init_116 (cl_at0 (cl_at (j := 50) rfl)) rfl (hq9 _ _) (rfl : kC[4]? = _) (vp_in_nI hlt (by omega)) ?_
        rw [nI_clamp (by omega)]
        refine jr_ws (ws' := [] ++ (kTx cI cII cL K F h q1 e9 q2 t9 q3 h9 q4 (larr (lnext la i q u.1 u.2) (i + 1)) ++ lcells cI (lnext la i q u.1 u.2) (i + 1))) ?_ ?_
        · rw [← larr_s (la := la) (k := i) (a := q) (b := u.1) (c := u.2), ← lcells_s]
          show _ = kTx cI cII cL K F h q1 e9 q2 t9 q3 h9 q4 (va_up (larr la i) i (some q)) ++ (lcells cI la i ++ _)
          rw [← List.append_assoc]
          rw [List.set_append, if_pos (by simp [kTx] <;> omega), List.nil_append, List.set_append, if_pos (by simp [kTx] <;> omega)]
          rfl
        refine jr_iinc (q := 3) (v := nI (i + 1)) (lv' := [(3, .int (nI (i + 1))), (0, .ref h), (1, .int l1), (2, .int l2)]) C dKT_init_117 rfl (nI_1 i) (by decide) rfl ?_
        refine jr_goto (tgt := 96) C dKT_init_120 (by decide) ?_
        refine jr_lv (lv' := [(0, .ref h), (1, .int l1), (2, .int l2), (3, .int (nI (i + 1)))]) [1, 2, 3, 0] rfl ?_
        refine jr_widen (k := 0 + 1 + 28 + 1 + 3 + 1 + 15 + 1 + 3 * (i + 1)) (n := 0 + 6 + 347 + 6 + 23 + 5 + 108 + K + 15 * (i + 1)) (by omega) (by omega) ?_
        exact ih (i + 1) (lnext la i q u.1 u.2) (by omega) (by omega)
  refine jr_lv (lv' := [(0, .ref h), (1, .int l1), (2, .int l2), (3, .int (nI 0))]) [1, 2, 3, 0] rfl ?_
  refine jr_ws (ws' := [] ++ (kTx cI cII cL K F h q1 e9 q2 t9 q3 h9 q4 (larr (fun _ => 0) 0) ++ lcells cI (fun _ => 0) 0)) ?_ ?_
  · rw [larr_0]; rfl
  exact lp (K + 1) 0 (fun _ => 0) (by omega) (by omega)
end CK
