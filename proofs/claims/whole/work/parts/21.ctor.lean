theorem dv_KT : ∀ j, j < 6 → defaultValue (ty_KT j) = vp_V [.int 0, .int 0, .null, .null, .null, .null] j := by decide +kernel
theorem dv_Ex : ∀ j, j < 6 → defaultValue (ty_Ex j) = vp_V [.int 0, .null, .null, .null, .null, .int 0] j := by decide +kernel
theorem dv_Te : ∀ j, j < 6 → defaultValue (ty_Te j) = vp_V [.null, .int 0, .null, .null, .null, .int 0] j := by decide +kernel
theorem dv_Ha : ∀ j, j < 5 → defaultValue (ty_Ha j) = vp_V [.int 0, .null, .null, .null, .int 0] j := by decide +kernel
theorem dv_La : ∀ j, j < 3 → defaultValue (ty_La j) = vp_V [.null, .null, .int 0] j := by decide +kernel
theorem dv_Mo : ∀ j, j < 17 → defaultValue (ty_Mo j) = vp_V [.int 0, .int 0, .int 0, .null, .int 0, .null, .null, .null, .int 0, .int 0, .null, .null, .null, .null, .null, .null, .null] j := by decide +kernel
/-- an array that is filled from its first place on -/
def fU (g : Nat → Int32) : Nat → Nat → Int32
  | 0 => fun _ => 0
  | i + 1 => upd (fU g i) i (g i)
theorem fU_at (g : Nat → Int32) : ∀ n j : Nat, fU g n j = if j < n then g j else 0
  | 0, j => by simp [fU]
  | n + 1, j => by
    show upd (fU g n) n (g n) j = _
    unfold upd
    by_cases h : j = n
    · subst h; simp
    · rw [if_neg h, fU_at g n j]
      by_cases h2 : j < n
      · rw [if_pos h2, if_pos (by omega)]
      · rw [if_neg h2, if_neg (by omega)]
abbrev zI (cI : ClassId) (n : Nat) : va_E := .inl (cI, n, .inl (fun _ => 0))
abbrev rI (cA : ClassId) (n : Nat) (f : Nat → Option Nat) : va_E := .inl (cA, n, .inr (.inr (.inr (.inr f))))
theorem cl_at0 {w0 t : va_W} {q : Nat} {e : Nat × va_E} (h : w0[q]? = some e) : (w0 ++ t)[q]? = some e := by
  rw [List.getElem?_append_left (List.getElem?_eq_some_iff.mp h).1]; exact h
section CT
variable {l : Launch} {D : va_G} {cI cII cL cJ : ClassId} {K F : Nat} {w0 : va_W}
set_option maxRecDepth 100000 in
set_option maxHeartbeats 4000000 in
theorem k_La (h : Nat) : jr_Kv l yLa_init wLa_init ({ frames := 1, cells := 2, slots := 12, locals := 13 }) [.ref h] D kC (kT cI cII cL cJ) (w0 ++ [(h, .inr (4, [.null, .null, .int 0]))]) (fun u : Nat × Nat => w0 ++ [(h, .inr (4, [.ref u.1, .ref u.2, .int 0])), (u.1, zI cI 6), (u.2, zI cI 6)]) (fun _ => True) 2 12 := by
  refine jr_ofK (cc := bLa_init) (nL := 1) (lv := [(0, .ref h)]) (by decide) rfl rfl (Nat.le_of_ble_eq_true rfl) rfl (fun p e s m args below meth c A C hr hlocks hin hA9 => ?_)
  refine jr_aload_n (q := 0) C dLa_init_0 rfl rfl ?_
  refine jr_oinit C (List.mem_cons_of_mem _ tm1_120) (List.mem_cons_of_mem _ tm1_20) (List.mem_cons_of_mem _ tm1_21) dLa_init_1 (Nat.le_of_ble_eq_true rfl) (Nat.le_of_ble_eq_true rfl) ?_
  refine jr_aload_n (q := 0) C dLa_init_4 rfl rfl ?_
  refine jr_bipush (v := 6) C dLa_init_5 (by decide) ?_
  refine jr_newI (N9 := 6) C dLa_init_7 rfl (List.mem_cons_of_mem _ tm1_62) (by decide) (by decide) (by omega) (by show _ ≤ 2; omega) (by show _ ≤ 12; omega) (fun q1 => ?_)
  refine jr_ws cl_app ?_
  refine jr_putfF (k := 0) C hin dLa_init_9 inw_La ty_La ty_La_ok nm_La (rfl : kC[4]? = _) (by decide) (List.mem_cons_of_mem _ tm1_121) rfl rfl rfl (ty := ty_La 0) (by decide +kernel) rfl rfl (cl_at (j := 0) rfl) (Nat.le_of_ble_eq_true rfl) ?_
  refine jr_ws cl_set ?_
  refine jr_aload_n (q := 0) C dLa_init_12 rfl rfl ?_
  refine jr_bipush (v := 6) C dLa_init_13 (by decide) ?_
  refine jr_newI (N9 := 6) C dLa_init_15 rfl (List.mem_cons_of_mem _ tm1_62) (by decide) (by decide) (by omega) (by show _ ≤ 2; omega) (by show _ ≤ 12; omega) (fun q2 => ?_)
  refine jr_ws cl_app ?_
  refine jr_putfF (k := 1) C hin dLa_init_17 inw_La ty_La ty_La_ok nm_La (rfl : kC[4]? = _) (by decide) (List.mem_cons_of_mem _ tm1_122) rfl rfl rfl (ty := ty_La 1) (by decide +kernel) rfl rfl (cl_at (j := 0) rfl) (Nat.le_of_ble_eq_true rfl) ?_
  refine jr_ws cl_set ?_
  exact jr_retKv (u := (q1, q2)) C hr hlocks dLa_init_20 (Nat.le_of_ble_eq_true rfl) (Nat.le_of_ble_eq_true rfl) trivial rfl
set_option maxRecDepth 100000 in
set_option maxHeartbeats 4000000 in
theorem k_Ha (hK6 : K ≤ 6) (h : Nat) : jr_Kv l yHa_init wHa_init ({ frames := 1, cells := 15, slots := 108, locals := 13 }) [.ref h, .int (nI K)] D kC (kT cI cII cL cJ) (w0 ++ [(h, .inr (3, [.int 0, .null, .null, .null, .int 0]))]) (fun u : Nat × Nat × Nat × (Nat → Nat) => w0 ++ ((h, .inr (3, [.int (nI K), .ref u.1, .ref u.2.1, .ref u.2.2.1, .int 0])) :: (u.1, zI cI 12) :: (u.2.1, zI cI 12) :: (u.2.2.1, rI cII 12 (fun i => if i < 12 then some (u.2.2.2 i) else none)) :: (List.range 12).map (fun i => (u.2.2.2 i, zI cI K)))) (fun _ => True) 15 108 := by
  refine jr_ofK (cc := bHa_init) (nL := 2) (lv := [(0, .ref h), (1, .int (nI K))]) (by decide) rfl rfl (Nat.le_of_ble_eq_true rfl) rfl (fun p e s m args below meth c A C hr hlocks hin hA9 => ?_)
  refine jr_aload_n (q := 0) C dHa_init_0 rfl rfl ?_
  refine jr_oinit C (List.mem_cons_of_mem _ tm1_94) (List.mem_cons_of_mem _ tm1_20) (List.mem_cons_of_mem _ tm1_21) dHa_init_1 (Nat.le_of_ble_eq_true rfl) (Nat.le_of_ble_eq_true rfl) ?_
  refine jr_aload_n (q := 0) C dHa_init_4 rfl rfl ?_
  refine jr_iload_n (q := 1) C dHa_init_5 rfl rfl ?_
  refine jr_putfF (k := 0) C hin dHa_init_6 inw_Ha ty_Ha ty_Ha_ok nm_Ha (rfl : kC[3]? = _) (by decide) (List.mem_cons_of_mem _ tm1_96) rfl rfl rfl (ty := ty_Ha 0) (by decide +kernel) rfl rfl (cl_at (j := 0) rfl) (Nat.le_of_ble_eq_true rfl) ?_
  refine jr_ws cl_set ?_
  refine jr_aload_n (q := 0) C dHa_init_9 rfl rfl ?_
  refine jr_bipush (v := 12) C dHa_init_10 (by decide) ?_
  refine jr_newI (N9 := 12) C dHa_init_12 rfl (List.mem_cons_of_mem _ tm1_62) (by decide) (by decide) (by omega) (by show _ ≤ 15; omega) (by show _ ≤ 108; omega) (fun q1 => ?_)
  refine jr_ws cl_app ?_
  refine jr_putfF (k := 1) C hin dHa_init_14 inw_Ha ty_Ha ty_Ha_ok nm_Ha (rfl : kC[3]? = _) (by decide) (List.mem_cons_of_mem _ tm1_97) rfl rfl rfl (ty := ty_Ha 1) (by decide +kernel) rfl rfl (cl_at (j := 0) rfl) (Nat.le_of_ble_eq_true rfl) ?_
  refine jr_ws cl_set ?_
  refine jr_aload_n (q := 0) C dHa_init_17 rfl rfl ?_
  refine jr_bipush (v := 12) C dHa_init_18 (by decide) ?_
  refine jr_newI (N9 := 12) C dHa_init_20 rfl (List.mem_cons_of_mem _ tm1_62) (by decide) (by decide) (by omega) (by show _ ≤ 15; omega) (by show _ ≤ 108; omega) (fun q2 => ?_)
  refine jr_ws cl_app ?_
  refine jr_putfF (k := 2) C hin dHa_init_22 inw_Ha ty_Ha ty_Ha_ok nm_Ha (rfl : kC[3]? = _) (by decide) (List.mem_cons_of_mem _ tm1_98) rfl rfl rfl (ty := ty_Ha 2) (by decide +kernel) rfl rfl (cl_at (j := 0) rfl) (Nat.le_of_ble_eq_true rfl) ?_
  refine jr_ws cl_set ?_
  refine jr_aload_n (q := 0) C dHa_init_25 rfl rfl ?_
  refine jr_bipush (v := 12) C dHa_init_26 (by decide) ?_
  refine jr_iload_n (q := 1) C dHa_init_28 rfl rfl ?_
  refine jr_mna (N9 := 12) (K9 := K) C dHa_init_29 rfl rfl (List.mem_cons_of_mem _ tm1_95) hA9.1 (List.mem_cons_of_mem _ tm1_62) (by decide) (nI_pos (by omega)) (by decide) (nI_clamp (by omega)) (by omega) (by omega) (by show _ ≤ 15; omega) (by show _ ≤ 108; omega) (fun q3 r4 => ?_)
  refine jr_ws cl_app ?_
  refine jr_putfF (k := 3) C hin dHa_init_33 inw_Ha ty_Ha ty_Ha_ok nm_Ha (rfl : kC[3]? = _) (by decide) (List.mem_cons_of_mem _ tm1_99) rfl rfl rfl (ty := ty_Ha 3) (by decide +kernel) rfl rfl (cl_at (j := 0) rfl) (Nat.le_of_ble_eq_true rfl) ?_
  refine jr_ws cl_set ?_
  exact jr_retKv (u := (q1, q2, q3, r4)) C hr hlocks dHa_init_36 (by omega) (by omega) trivial rfl
set_option maxRecDepth 100000 in
set_option maxHeartbeats 4000000 in
theorem k_Ex (hF11 : F ≤ 11) (h : Nat) : jr_Kv l yEx_init wEx_init ({ frames := 1, cells := 28, slots := 347, locals := 13 }) [.ref h, .int (nI F)] D kC (kT cI cII cL cJ) (w0 ++ [(h, .inr (1, [.int 0, .null, .null, .null, .null, .int 0]))]) (fun u : Nat × (Nat → Nat) × Nat × Nat × Nat => w0 ++ ((h, .inr (1, [.int (nI F), .ref u.1, .ref u.2.2.1, .ref u.2.2.2.1, .ref u.2.2.2.2, .int 0])) :: (u.1, rI cII 24 (fun i => if i < 24 then some (u.2.1 i) else none)) :: ((List.range 24).map (fun i => (u.2.1 i, zI cI F)) ++ [(u.2.2.1, zI cI 24), (u.2.2.2.1, .inl (cI, F, .inl (fU (fun _ => 100) F))), (u.2.2.2.2, zI cI 24)]))) (fun _ => True) 28 347 := by
  refine jr_ofK (cc := bEx_init) (nL := 3) (lv := [(0, .ref h), (1, .int (nI F))]) (by decide) rfl rfl (Nat.le_of_ble_eq_true rfl) rfl (fun p e s m args below meth c A C hr hlocks hin hA9 => ?_)
  refine jr_aload_n (q := 0) C dEx_init_0 rfl rfl ?_
  refine jr_oinit C (List.mem_cons_of_mem _ tm1_33) (List.mem_cons_of_mem _ tm1_20) (List.mem_cons_of_mem _ tm1_21) dEx_init_1 (Nat.le_of_ble_eq_true rfl) (Nat.le_of_ble_eq_true rfl) ?_
  refine jr_aload_n (q := 0) C dEx_init_4 rfl rfl ?_
  refine jr_iload_n (q := 1) C dEx_init_5 rfl rfl ?_
  refine jr_putfF (k := 0) C hin dEx_init_6 inw_Ex ty_Ex ty_Ex_ok nm_Ex (rfl : kC[1]? = _) (by decide) (List.mem_cons_of_mem _ tm1_36) rfl rfl rfl (ty := ty_Ex 0) (by decide +kernel) rfl rfl (cl_at (j := 0) rfl) (Nat.le_of_ble_eq_true rfl) ?_
  refine jr_ws cl_set ?_
  refine jr_aload_n (q := 0) C dEx_init_9 rfl rfl ?_
  refine jr_bipush (v := 24) C dEx_init_10 (by decide) ?_
  refine jr_iload_n (q := 1) C dEx_init_12 rfl rfl ?_
  refine jr_mna (N9 := 24) (K9 := F) C dEx_init_13 rfl rfl (List.mem_cons_of_mem _ tm1_34) hA9.1 (List.mem_cons_of_mem _ tm1_62) (by decide) (nI_pos (by omega)) (by decide) (nI_clamp (by omega)) (by omega) (by omega) (by show _ ≤ 28; omega) (by show _ ≤ 347; omega) (fun q1 r2 => ?_)
  refine jr_ws cl_app ?_
  refine jr_putfF (k := 1) C hin dEx_init_17 inw_Ex ty_Ex ty_Ex_ok nm_Ex (rfl : kC[1]? = _) (by decide) (List.mem_cons_of_mem _ tm1_38) rfl rfl rfl (ty := ty_Ex 1) (by decide +kernel) rfl rfl (cl_at (j := 0) rfl) (Nat.le_of_ble_eq_true rfl) ?_
  refine jr_ws cl_set ?_
  refine jr_aload_n (q := 0) C dEx_init_20 rfl rfl ?_
  refine jr_bipush (v := 24) C dEx_init_21 (by decide) ?_
  refine jr_newI (N9 := 24) C dEx_init_23 rfl (List.mem_cons_of_mem _ tm1_62) (by decide) (by decide) (by omega) (by show _ ≤ 28; omega) (by show _ ≤ 347; omega) (fun q3 => ?_)
  refine jr_ws cl_app ?_
  refine jr_putfF (k := 2) C hin dEx_init_25 inw_Ex ty_Ex ty_Ex_ok nm_Ex (rfl : kC[1]? = _) (by decide) (List.mem_cons_of_mem _ tm1_40) rfl rfl rfl (ty := ty_Ex 2) (by decide +kernel) rfl rfl (cl_at (j := 0) rfl) (Nat.le_of_ble_eq_true rfl) ?_
  refine jr_ws cl_set ?_
  refine jr_aload_n (q := 0) C dEx_init_28 rfl rfl ?_
  refine jr_iload_n (q := 1) C dEx_init_29 rfl rfl ?_
  refine jr_newI (N9 := F) C dEx_init_30 rfl (List.mem_cons_of_mem _ tm1_62) (nI_pos (by omega)) (nI_clamp (by omega)) (by omega) (by show _ ≤ 28; omega) (by show _ ≤ 347; omega) (fun q4 => ?_)
  refine jr_ws cl_app ?_
  refine jr_putfF (k := 3) C hin dEx_init_32 inw_Ex ty_Ex ty_Ex_ok nm_Ex (rfl : kC[1]? = _) (by decide) (List.mem_cons_of_mem _ tm1_43) rfl rfl rfl (ty := ty_Ex 3) (by decide +kernel) rfl rfl (cl_at (j := 0) rfl) (Nat.le_of_ble_eq_true rfl) ?_
  refine jr_ws cl_set ?_
  refine jr_aload_n (q := 0) C dEx_init_35 rfl rfl ?_
  refine jr_bipush (v := 24) C dEx_init_36 (by decide) ?_
  refine jr_newI (N9 := 24) C dEx_init_38 rfl (List.mem_cons_of_mem _ tm1_62) (by decide) (by decide) (by omega) (by show _ ≤ 28; omega) (by show _ ≤ 347; omega) (fun q5 => ?_)
  refine jr_ws cl_app ?_
  refine jr_putfF (k := 4) C hin dEx_init_40 inw_Ex ty_Ex ty_Ex_ok nm_Ex (rfl : kC[1]? = _) (by decide) (List.mem_cons_of_mem _ tm1_45) rfl rfl rfl (ty := ty_Ex 4) (by decide +kernel) rfl rfl (cl_at (j := 0) rfl) (Nat.le_of_ble_eq_true rfl) ?_
  refine jr_ws cl_set ?_
  refine jr_iconst (v := 0) C dEx_init_43 (by decide) ?_
  refine jr_istore_n (lv' := [(2, .int 0), (0, .ref h), (1, .int (nI F))]) C dEx_init_44 rfl (by decide) rfl ?_
  have lp : ∀ n i : Nat, i ≤ F → F < i + n → jr_J p l e (headSpec wEx_init ({ frames := 1, cells := 28, slots := 347, locals := 13 })).room s m args below meth c A D kC 3 (0 + 1 + 24 + 1 + 1 + 1) (0 + 24 + 24 * F + 24 + F + 24) (MQ below (va_Qv (fun _ => True) (jr_B D kC (kT cI cII cL cJ) (fun u : Nat × (Nat → Nat) × Nat × Nat × Nat => w0 ++ ((h, .inr (1, [.int (nI F), .ref u.1, .ref u.2.2.1, .ref u.2.2.2.1, .ref u.2.2.2.2, .int 0])) :: (u.1, rI cII 24 (fun i => if i < 24 then some (u.2.1 i) else none)) :: ((List.range 24).map (fun i => (u.2.1 i, zI cI F)) ++ [(u.2.2.1, zI cI 24), (u.2.2.2.1, .inl (cI, F, .inl (fU (fun _ => 100) F))), (u.2.2.2.2, zI cI 24)]))) A) A) args s 28 347 A) (w0 ++ ((h, .inr (1, [.int (nI F), .ref q1, .ref q3, .ref q4, .ref q5, .int 0])) :: (q1, rI cII 24 (fun i => if i < 24 then some (r2 i) else none)) :: ((List.range 24).map (fun i => (r2 i, zI cI F)) ++ [(q3, zI cI 24), (q4, .inl (cI, F, .inl (fU (fun _ => 100) i))), (q5, zI cI 24)]))) 45 [(0, .ref h), (1, .int (nI F)), (2, .int (nI i))] [] := by
    intro n
    induction n with
    | zero => intro i h1 h2; exact absurd h2 (by omega)
    | succ n ih =>
      intro i h1 h2
      refine jr_iload_n (q := 2) C dEx_init_45 rfl rfl ?_
      refine jr_iload_n (q := 1) C dEx_init_46 rfl rfl ?_
      refine jr_icmp_ge (tgt := 64) C dEx_init_47 (by decide) (fun z => ?_) (fun z => ?_)
      · have e : i = F := by have := (nI_leI (by omega) (by omega)).mp z; omega
        subst e
        exact jr_retKv (u := (q1, r2, q3, q4, q5)) C hr hlocks dEx_init_64 (by omega) (by omega) trivial rfl
      · have hlt : i < F := Nat.lt_of_not_le fun q => z (nI_le q (by omega))
        refine jr_aload_n (q := 0) C dEx_init_50 rfl rfl ?_
        refine jr_getf (k := 3) C dEx_init_51 inw_Ex (rfl : kC[1]? = _) (by decide) (List.mem_cons_of_mem _ tm1_43) rfl (cl_at (j := 0) rfl) rfl ?_
        refine jr_iload_n (q := 2) C dEx_init_54 rfl rfl ?_
        refine jr_bipush (v := 100) C dEx_init_55 (by decide) ?_
        refine jr_iast (t0 := 0) C dEx_init_57 (cl_at (j := 27) rfl) rfl (vp_in_nI hlt (by omega)) ?_
        refine jr_ws cl_set ?_
        rw [nI_clamp (by omega)]
        refine jr_iinc (q := 2) (v := nI (i + 1)) (lv' := [(2, .int (nI (i + 1))), (0, .ref h), (1, .int (nI F))]) C dEx_init_58 rfl (nI_1 i) (by decide) rfl ?_
        refine jr_goto (tgt := 45) C dEx_init_61 (by decide) ?_
        refine jr_lv (lv' := [(0, .ref h), (1, .int (nI F)), (2, .int (nI (i + 1)))]) [1, 2, 0] rfl ?_
        exact ih (i + 1) (by omega) (by omega)
  refine jr_lv (lv' := [(0, .ref h), (1, .int (nI F)), (2, .int (nI 0))]) [1, 2, 0] rfl ?_
  exact lp (F + 1) 0 (by omega) (by omega)
set_option maxRecDepth 100000 in
set_option maxHeartbeats 4000000 in
theorem k_Te (hK6 : K ≤ 6) (hF11 : F ≤ 11) (h hx qx : Nat) {fsx : List Value} (hex : w0[qx]? = some (hx, .inr (1, fsx))) (hfx : fsx[0]? = some (.int (nI F))) : jr_Kv l yTe_init wTe_init ({ frames := 1, cells := 3, slots := 23, locals := 13 }) [.ref h, .ref hx, .int (nI K)] D kC (kT cI cII cL cJ) (w0 ++ [(h, .inr (2, [.null, .int 0, .null, .null, .null, .int 0]))]) (fun u : Nat × Nat × Nat => w0 ++ [(h, .inr (2, [.ref hx, .int (nI K), .ref u.1, .ref u.2.1, .ref u.2.2, .int 1])), (u.1, .inl (cI, K, .inl (fU nI K))), (u.2.1, zI cI K), (u.2.2, zI cI F)]) (fun _ => True) 3 23 := by
  refine jr_ofK (cc := bTe_init) (nL := 4) (lv := [(0, .ref h), (1, .ref hx), (2, .int (nI K))]) (by decide) rfl rfl (Nat.le_of_ble_eq_true rfl) rfl (fun p e s m args below meth c A C hr hlocks hin hA9 => ?_)
  refine jr_aload_n (q := 0) C dTe_init_0 rfl rfl ?_
  refine jr_oinit C (List.mem_cons_of_mem _ tm1_68) (List.mem_cons_of_mem _ tm1_20) (List.mem_cons_of_mem _ tm1_21) dTe_init_1 (Nat.le_of_ble_eq_true rfl) (Nat.le_of_ble_eq_true rfl) ?_
  refine jr_aload_n (q := 0) C dTe_init_4 rfl rfl ?_
  refine jr_aload_n (q := 1) C dTe_init_5 rfl rfl ?_
  refine jr_putfF (k := 0) C hin dTe_init_6 inw_Te ty_Te ty_Te_ok nm_Te (rfl : kC[2]? = _) (by decide) (List.mem_cons_of_mem _ tm1_69) rfl rfl rfl (ty := ty_Te 0) (by decide +kernel) rfl rfl (cl_at (j := 0) rfl) (Nat.le_of_ble_eq_true rfl) ?_
  refine jr_ws cl_set ?_
  refine jr_aload_n (q := 0) C dTe_init_9 rfl rfl ?_
  refine jr_iload_n (q := 2) C dTe_init_10 rfl rfl ?_
  refine jr_putfF (k := 1) C hin dTe_init_11 inw_Te ty_Te ty_Te_ok nm_Te (rfl : kC[2]? = _) (by decide) (List.mem_cons_of_mem _ tm1_70) rfl rfl rfl (ty := ty_Te 1) (by decide +kernel) rfl rfl (cl_at (j := 0) rfl) (Nat.le_of_ble_eq_true rfl) ?_
  refine jr_ws cl_set ?_
  refine jr_aload_n (q := 0) C dTe_init_14 rfl rfl ?_
  refine jr_iload_n (q := 2) C dTe_init_15 rfl rfl ?_
  refine jr_newI (N9 := K) C dTe_init_16 rfl (List.mem_cons_of_mem _ tm1_62) (nI_pos (by omega)) (nI_clamp (by omega)) (by omega) (by show _ ≤ 3; omega) (by show _ ≤ 23; omega) (fun q1 => ?_)
  refine jr_ws cl_app ?_
  refine jr_putfF (k := 2) C hin dTe_init_18 inw_Te ty_Te ty_Te_ok nm_Te (rfl : kC[2]? = _) (by decide) (List.mem_cons_of_mem _ tm1_71) rfl rfl rfl (ty := ty_Te 2) (by decide +kernel) rfl rfl (cl_at (j := 0) rfl) (Nat.le_of_ble_eq_true rfl) ?_
  refine jr_ws cl_set ?_
  refine jr_aload_n (q := 0) C dTe_init_21 rfl rfl ?_
  refine jr_iload_n (q := 2) C dTe_init_22 rfl rfl ?_
  refine jr_newI (N9 := K) C dTe_init_23 rfl (List.mem_cons_of_mem _ tm1_62) (nI_pos (by omega)) (nI_clamp (by omega)) (by omega) (by show _ ≤ 3; omega) (by show _ ≤ 23; omega) (fun q2 => ?_)
  refine jr_ws cl_app ?_
  refine jr_putfF (k := 3) C hin dTe_init_25 inw_Te ty_Te ty_Te_ok nm_Te (rfl : kC[2]? = _) (by decide) (List.mem_cons_of_mem _ tm1_72) rfl rfl rfl (ty := ty_Te 3) (by decide +kernel) rfl rfl (cl_at (j := 0) rfl) (Nat.le_of_ble_eq_true rfl) ?_
  refine jr_ws cl_set ?_
  refine jr_aload_n (q := 0) C dTe_init_28 rfl rfl ?_
  refine jr_aload_n (q := 1) C dTe_init_29 rfl rfl ?_
  refine jr_getf (k := 0) (v := .int (nI F)) C dTe_init_30 inw_Ex (rfl : kC[1]? = _) (by decide) (List.mem_cons_of_mem _ tm1_37) rfl (cl_at0 hex) hfx ?_
  refine jr_newI (N9 := F) C dTe_init_33 rfl (List.mem_cons_of_mem _ tm1_62) (nI_pos (by omega)) (nI_clamp (by omega)) (by omega) (by show _ ≤ 3; omega) (by show _ ≤ 23; omega) (fun q3 => ?_)
  refine jr_ws cl_app ?_
  refine jr_putfF (k := 4) C hin dTe_init_35 inw_Te ty_Te ty_Te_ok nm_Te (rfl : kC[2]? = _) (by decide) (List.mem_cons_of_mem _ tm1_73) rfl rfl rfl (ty := ty_Te 4) (by decide +kernel) rfl rfl (cl_at (j := 0) rfl) (Nat.le_of_ble_eq_true rfl) ?_
  refine jr_ws cl_set ?_
  refine jr_aload_n (q := 0) C dTe_init_38 rfl rfl ?_
  refine jr_iconst (v := 1) C dTe_init_39 (by decide) ?_
  refine jr_putf (k := 5) C dTe_init_40 inw_Te ty_Te ty_Te_ok nm_Te (rfl : kC[2]? = _) (by decide) (List.mem_cons_of_mem _ tm1_74) rfl rfl (ty := ty_Te 5) (by decide +kernel) rfl rfl (cl_at (j := 0) rfl) (Nat.le_of_ble_eq_true rfl) ?_
  refine jr_ws cl_set ?_
  refine jr_iconst (v := 0) C dTe_init_43 (by decide) ?_
  refine jr_istore_n (lv' := [(3, .int 0), (0, .ref h), (1, .ref hx), (2, .int (nI K))]) C dTe_init_44 rfl (by decide) rfl ?_
  have lp : ∀ n i : Nat, i ≤ K → K < i + n → jr_J p l e (headSpec wTe_init ({ frames := 1, cells := 3, slots := 23, locals := 13 })).room s m args below meth c A D kC 4 (0 + 1 + 1 + 1) (0 + K + K + F) (MQ below (va_Qv (fun _ => True) (jr_B D kC (kT cI cII cL cJ) (fun u : Nat × Nat × Nat => w0 ++ [(h, .inr (2, [.ref hx, .int (nI K), .ref u.1, .ref u.2.1, .ref u.2.2, .int 1])), (u.1, .inl (cI, K, .inl (fU nI K))), (u.2.1, zI cI K), (u.2.2, zI cI F)]) A) A) args s 3 23 A) (w0 ++ [(h, .inr (2, [.ref hx, .int (nI K), .ref q1, .ref q2, .ref q3, .int 1])), (q1, .inl (cI, K, .inl (fU nI i))), (q2, zI cI K), (q3, zI cI F)]) 45 [(0, .ref h), (1, .ref hx), (2, .int (nI K)), (3, .int (nI i))] [] := by
    intro n
    induction n with
    | zero => intro i h1 h2; exact absurd h2 (by omega)
    | succ n ih =>
      intro i h1 h2
      refine jr_iload_n (q := 3) C dTe_init_45 rfl rfl ?_
      refine jr_iload_n (q := 2) C dTe_init_46 rfl rfl ?_
      refine jr_icmp_ge (tgt := 63) C dTe_init_47 (by decide) (fun z => ?_) (fun z => ?_)
      · have e : i = K := by have := (nI_leI (by omega) (by omega)).mp z; omega
        subst e
        exact jr_retKv (u := (q1, q2, q3)) C hr hlocks dTe_init_63 (by omega) (by omega) trivial rfl
      · have hlt : i < K := Nat.lt_of_not_le fun q => z (nI_le q (by omega))
        refine jr_aload_n (q := 0) C dTe_init_50 rfl rfl ?_
        refine jr_getf (k := 2) C dTe_init_51 inw_Te (rfl : kC[2]? = _) (by decide) (List.mem_cons_of_mem _ tm1_71) rfl (cl_at (j := 0) rfl) rfl ?_
        refine jr_iload_n (q := 3) C dTe_init_54 rfl rfl ?_
        refine jr_iload_n (q := 3) C dTe_init_55 rfl rfl ?_
        refine jr_iast (t0 := 0) C dTe_init_56 (cl_at (j := 1) rfl) rfl (vp_in_nI hlt (by omega)) ?_
        refine jr_ws cl_set ?_
        rw [nI_clamp (by omega)]
        refine jr_iinc (q := 3) (v := nI (i + 1)) (lv' := [(3, .int (nI (i + 1))), (0, .ref h), (1, .ref hx), (2, .int (nI K))]) C dTe_init_57 rfl (nI_1 i) (by decide) rfl ?_
        refine jr_goto (tgt := 45) C dTe_init_60 (by decide) ?_
        refine jr_lv (lv' := [(0, .ref h), (1, .ref hx), (2, .int (nI K)), (3, .int (nI (i + 1)))]) [1, 2, 3, 0] rfl ?_
        exact ih (i + 1) (by omega) (by omega)
  refine jr_lv (lv' := [(0, .ref h), (1, .ref hx), (2, .int (nI K)), (3, .int (nI 0))]) [1, 2, 3, 0] rfl ?_
  exact lp (K + 1) 0 (by omega) (by omega)
end CT
