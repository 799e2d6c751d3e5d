theorem i32_1 : (1 : Int32).toInt = 1 := by decide
theorem i32_6 : (6 : Int32).toInt = 6 := by decide
theorem i32_8 : (8 : Int32).toInt = 8 := by decide
theorem kC1_a {x : Int32} (h : ¬ (1 : Int32) ≤ x) : (1 : Int32) = kC1 x := by
  rw [Int32.le_iff_toInt_le, i32_1] at h
  have e1 : x < 6 := by rw [Int32.lt_iff_toInt_lt, i32_6]; omega
  have e2 : ¬ (1 : Int32) < x := by rw [Int32.lt_iff_toInt_lt, i32_1]; omega
  unfold kC1
  rw [if_pos e1, if_neg e2]
theorem kC1_b {x : Int32} (h : ¬ x ≤ 6) : (6 : Int32) = kC1 x := by
  rw [Int32.le_iff_toInt_le, i32_6] at h
  have e1 : ¬ x < 6 := by rw [Int32.lt_iff_toInt_lt, i32_6]; omega
  unfold kC1
  rw [if_neg e1, if_pos (by decide)]
theorem kC1_c {x : Int32} (h1 : (1 : Int32) ≤ x) (h2 : x ≤ 6) : x = kC1 x := by
  rw [Int32.le_iff_toInt_le, i32_1] at h1
  rw [Int32.le_iff_toInt_le, i32_6] at h2
  unfold kC1
  by_cases e1 : x < 6
  · rw [if_pos e1]
    by_cases e2 : (1 : Int32) < x
    · rw [if_pos e2]
    · rw [if_neg e2]
      rw [Int32.lt_iff_toInt_lt, i32_1] at e2
      exact Int32.toInt_inj.mp (by rw [i32_1]; omega)
  · rw [if_neg e1, if_pos (by decide)]
    rw [Int32.lt_iff_toInt_lt, i32_6] at e1
    exact Int32.toInt_inj.mp (by rw [i32_6]; omega)
theorem kC2_a {x : Int32} (h : ¬ (1 : Int32) ≤ x) : (3 : Int32) + 1 = kC2 x := by
  rw [Int32.le_iff_toInt_le, i32_1] at h
  have e1 : x < 8 := by rw [Int32.lt_iff_toInt_lt, i32_8]; omega
  have e2 : ¬ (1 : Int32) < x := by rw [Int32.lt_iff_toInt_lt, i32_1]; omega
  unfold kC2
  rw [if_pos e1, if_neg e2]
  decide
theorem kC2_b {x : Int32} (h : ¬ x ≤ 8) : (3 : Int32) + 8 = kC2 x := by
  rw [Int32.le_iff_toInt_le, i32_8] at h
  have e1 : ¬ x < 8 := by rw [Int32.lt_iff_toInt_lt, i32_8]; omega
  unfold kC2
  rw [if_neg e1, if_pos (by decide)]
  decide
theorem kC2_c {x : Int32} (h1 : (1 : Int32) ≤ x) (h2 : x ≤ 8) : (3 : Int32) + x = kC2 x := by
  rw [Int32.le_iff_toInt_le, i32_1] at h1
  rw [Int32.le_iff_toInt_le, i32_8] at h2
  have e : x = if (1 : Int32) < (if x < 8 then x else 8) then (if x < 8 then x else 8) else 1 := by
    by_cases e1 : x < 8
    · rw [if_pos e1]
      by_cases e2 : (1 : Int32) < x
      · rw [if_pos e2]
      · rw [if_neg e2]
        rw [Int32.lt_iff_toInt_lt, i32_1] at e2
        exact Int32.toInt_inj.mp (by rw [i32_1]; omega)
    · rw [if_neg e1, if_pos (by decide)]
      rw [Int32.lt_iff_toInt_lt, i32_8] at e1
      exact Int32.toInt_inj.mp (by rw [i32_8]; omega)
  unfold kC2
  rw [← e, Int32.add_comm]
theorem i32_ge1 {x : Int32} (h1 : (1 : Int32) ≤ x) : ¬ x < 0 := by
  intro q
  rw [Int32.lt_iff_toInt_lt, Int32.toInt_zero] at q
  rw [Int32.le_iff_toInt_le, i32_1] at h1
  omega
/-- the kinds and features of any object -/
theorem kC1_in (x : Int32) : ∃ K : Nat, 1 ≤ K ∧ K ≤ 6 ∧ kC1 x = nI K := by
  by_cases h1 : (1 : Int32) ≤ x
  · by_cases h2 : x ≤ 6
    · obtain ⟨j, hj, e⟩ := nI_of2 (x := x) (M := 6) (n := 6) (by decide) (i32_ge1 h1) h2
      refine ⟨j, ?_, hj, (kC1_c h1 h2).symm.trans e⟩
      rw [e, Int32.le_iff_toInt_le, i32_1, nI_toInt (by omega)] at h1
      omega
    · exact ⟨6, by omega, by omega, (kC1_b h2).symm⟩
  · exact ⟨1, by omega, by omega, (kC1_a h1).symm⟩
theorem kC2_in (x : Int32) : ∃ F : Nat, 4 ≤ F ∧ F ≤ 11 ∧ kC2 x = nI F := by
  by_cases h1 : (1 : Int32) ≤ x
  · by_cases h2 : x ≤ 8
    · obtain ⟨j, hj, e⟩ := nI_of2 (x := x) (M := 8) (n := 8) (by decide) (i32_ge1 h1) h2
      refine ⟨3 + j, ?_, by omega, (kC2_c h1 h2).symm.trans (by rw [e]; exact nI_add 3 j)⟩
      rw [e, Int32.le_iff_toInt_le, i32_1, nI_toInt (by omega)] at h1
      omega
    · exact ⟨11, by omega, by omega, (kC2_b h2).symm⟩
  · exact ⟨4, by omega, by omega, (kC2_a h1).symm⟩
def mAd (h q1 q2 q3 q4 q5 q6 q7 q8 q9 q10 q11 : Nat) : Nat → Nat := fun k => match k with
  | 0 => h
  | 1 => q1
  | 2 => q2
  | 3 => q3
  | 4 => q4
  | 5 => q5
  | 6 => q6
  | 7 => q7
  | 8 => q8
  | 9 => q9
  | 10 => q10
  | _ => q11
def mS0 (K F : Nat) : jS := fun k j => match k with
  | 0 => if j = 1 then nI K else if j = 2 then nI F else if j = 8 then 1 else 0
  | 1 => fU (fun _ => 100) 11 j
  | 4 => fU nI 6 j
  | _ => 0
section CM
variable {l : Launch} {D : va_G} {cI cII cL cJ : ClassId} {K F : Nat} {w0 : va_W}
set_option maxRecDepth 100000 in
set_option maxHeartbeats 4000000 in
theorem k_Mo {l1 l2 : Int32} (hKe : kC1 l1 = nI K) (hFe : kC2 l2 = nI F) (h : Nat) : jr_Kv l yMo_init wMo_init ({ frames := 1, cells := 11, slots := 503, locals := 20 }) [.ref h, .int l1, .int l2] D kC (kT cI cII cL cJ) (w0 ++ [(h, .inr (5, [.int 0, .int 0, .int 0, .null, .int 0, .null, .null, .null, .int 0, .int 0, .null, .null, .null, .null, .null, .null, .null]))]) (fun am : Nat → Nat => w0 ++ mW cI am [] (mS0 K F)) (fun am => am 0 = h) 11 503 := by
  refine jr_ofK (cc := bMo_init) (nL := 4) (lv := [(0, .ref h), (1, .int l1), (2, .int l2)]) (by decide) rfl rfl (Nat.le_of_ble_eq_true rfl) rfl (fun p e s m args below meth c A C hr hlocks hin hA9 => ?_)
  refine jr_aload_n (q := 0) C dMo_init_0 rfl rfl ?_
  refine jr_oinit C (List.mem_cons_of_mem _ tm3_128) (List.mem_cons_of_mem _ tm1_20) (List.mem_cons_of_mem _ tm1_21) dMo_init_1 (Nat.le_of_ble_eq_true rfl) (Nat.le_of_ble_eq_true rfl) ?_
  refine jr_aload_n (q := 0) C dMo_init_4 rfl rfl ?_
  refine jr_bipush (v := 11) C dMo_init_5 (by decide) ?_
  refine jr_newI (N9 := 11) C dMo_init_7 rfl (List.mem_cons_of_mem _ tm1_62) (by decide) (by decide) (by omega) (by show _ ≤ 11; omega) (by show _ ≤ 503; omega) (fun q1 => ?_)
  refine jr_ws cl_app ?_
  refine jr_putfF (k := 3) C hin dMo_init_9 inw_Mo ty_Mo ty_Mo_ok nm_Mo (rfl : kC[5]? = _) (by decide) (List.mem_cons_of_mem _ tm3_132) rfl rfl rfl (ty := ty_Mo 3) (by decide +kernel) rfl rfl (cl_at (j := 0) rfl) (Nat.le_of_ble_eq_true rfl) ?_
  refine jr_ws (ws' := (w0 ++ [(h, .inr (5, [.int 0, .int 0, .int 0, .ref q1, .int 0, .null, .null, .null, .int 0, .int 0, .null, .null, .null, .null, .null, .null, .null])), (q1, zI cI 11)])) cl_set ?_
  refine jr_aload_n (q := 0) C dMo_init_12 rfl rfl ?_
  refine jr_bipush (v := 24) C dMo_init_13 (by decide) ?_
  refine jr_newI (N9 := 24) C dMo_init_15 rfl (List.mem_cons_of_mem _ tm1_62) (by decide) (by decide) (by omega) (by show _ ≤ 11; omega) (by show _ ≤ 503; omega) (fun q2 => ?_)
  refine jr_ws cl_app ?_
  refine jr_putfF (k := 5) C hin dMo_init_17 inw_Mo ty_Mo ty_Mo_ok nm_Mo (rfl : kC[5]? = _) (by decide) (List.mem_cons_of_mem _ tm3_134) rfl rfl rfl (ty := ty_Mo 5) (by decide +kernel) rfl rfl (cl_at (j := 0) rfl) (Nat.le_of_ble_eq_true rfl) ?_
  refine jr_ws (ws' := (w0 ++ [(h, .inr (5, [.int 0, .int 0, .int 0, .ref q1, .int 0, .ref q2, .null, .null, .int 0, .int 0, .null, .null, .null, .null, .null, .null, .null])), (q1, zI cI 11), (q2, zI cI 24)])) cl_set ?_
  refine jr_aload_n (q := 0) C dMo_init_20 rfl rfl ?_
  refine jr_sipush (v := 264) C dMo_init_21 (by decide) ?_
  refine jr_newI (N9 := 264) C dMo_init_24 rfl (List.mem_cons_of_mem _ tm1_62) (by decide) (by decide) (by omega) (by show _ ≤ 11; omega) (by show _ ≤ 503; omega) (fun q3 => ?_)
  refine jr_ws cl_app ?_
  refine jr_putfF (k := 6) C hin dMo_init_26 inw_Mo ty_Mo ty_Mo_ok nm_Mo (rfl : kC[5]? = _) (by decide) (List.mem_cons_of_mem _ tm3_135) rfl rfl rfl (ty := ty_Mo 6) (by decide +kernel) rfl rfl (cl_at (j := 0) rfl) (Nat.le_of_ble_eq_true rfl) ?_
  refine jr_ws (ws' := (w0 ++ [(h, .inr (5, [.int 0, .int 0, .int 0, .ref q1, .int 0, .ref q2, .ref q3, .null, .int 0, .int 0, .null, .null, .null, .null, .null, .null, .null])), (q1, zI cI 11), (q2, zI cI 24), (q3, zI cI 264)])) cl_set ?_
  refine jr_aload_n (q := 0) C dMo_init_29 rfl rfl ?_
  refine jr_bipush (v := 6) C dMo_init_30 (by decide) ?_
  refine jr_newI (N9 := 6) C dMo_init_32 rfl (List.mem_cons_of_mem _ tm1_62) (by decide) (by decide) (by omega) (by show _ ≤ 11; omega) (by show _ ≤ 503; omega) (fun q4 => ?_)
  refine jr_ws cl_app ?_
  refine jr_putfF (k := 7) C hin dMo_init_34 inw_Mo ty_Mo ty_Mo_ok nm_Mo (rfl : kC[5]? = _) (by decide) (List.mem_cons_of_mem _ tm3_136) rfl rfl rfl (ty := ty_Mo 7) (by decide +kernel) rfl rfl (cl_at (j := 0) rfl) (Nat.le_of_ble_eq_true rfl) ?_
  refine jr_ws (ws' := (w0 ++ [(h, .inr (5, [.int 0, .int 0, .int 0, .ref q1, .int 0, .ref q2, .ref q3, .ref q4, .int 0, .int 0, .null, .null, .null, .null, .null, .null, .null])), (q1, zI cI 11), (q2, zI cI 24), (q3, zI cI 264), (q4, zI cI 6)])) cl_set ?_
  refine jr_aload_n (q := 0) C dMo_init_37 rfl rfl ?_
  refine jr_iconst (v := 1) C dMo_init_38 (by decide) ?_
  refine jr_putf (k := 8) C dMo_init_39 inw_Mo ty_Mo ty_Mo_ok nm_Mo (rfl : kC[5]? = _) (by decide) (List.mem_cons_of_mem _ tm3_137) rfl rfl (ty := ty_Mo 8) (by decide +kernel) rfl rfl (cl_at (j := 0) rfl) (Nat.le_of_ble_eq_true rfl) ?_
  refine jr_ws (ws' := (w0 ++ [(h, .inr (5, [.int 0, .int 0, .int 0, .ref q1, .int 0, .ref q2, .ref q3, .ref q4, .int 1, .int 0, .null, .null, .null, .null, .null, .null, .null])), (q1, zI cI 11), (q2, zI cI 24), (q3, zI cI 264), (q4, zI cI 6)])) cl_set ?_
  refine jr_aload_n (q := 0) C dMo_init_42 rfl rfl ?_
  refine jr_bipush (v := 12) C dMo_init_43 (by decide) ?_
  refine jr_newI (N9 := 12) C dMo_init_45 rfl (List.mem_cons_of_mem _ tm1_62) (by decide) (by decide) (by omega) (by show _ ≤ 11; omega) (by show _ ≤ 503; omega) (fun q5 => ?_)
  refine jr_ws cl_app ?_
  refine jr_putfF (k := 10) C hin dMo_init_47 inw_Mo ty_Mo ty_Mo_ok nm_Mo (rfl : kC[5]? = _) (by decide) (List.mem_cons_of_mem _ tm3_139) rfl rfl rfl (ty := ty_Mo 10) (by decide +kernel) rfl rfl (cl_at (j := 0) rfl) (Nat.le_of_ble_eq_true rfl) ?_
  refine jr_ws (ws' := (w0 ++ [(h, .inr (5, [.int 0, .int 0, .int 0, .ref q1, .int 0, .ref q2, .ref q3, .ref q4, .int 1, .int 0, .ref q5, .null, .null, .null, .null, .null, .null])), (q1, zI cI 11), (q2, zI cI 24), (q3, zI cI 264), (q4, zI cI 6), (q5, zI cI 12)])) cl_set ?_
  refine jr_aload_n (q := 0) C dMo_init_50 rfl rfl ?_
  refine jr_bipush (v := 12) C dMo_init_51 (by decide) ?_
  refine jr_newI (N9 := 12) C dMo_init_53 rfl (List.mem_cons_of_mem _ tm1_62) (by decide) (by decide) (by omega) (by show _ ≤ 11; omega) (by show _ ≤ 503; omega) (fun q6 => ?_)
  refine jr_ws cl_app ?_
  refine jr_putfF (k := 11) C hin dMo_init_55 inw_Mo ty_Mo ty_Mo_ok nm_Mo (rfl : kC[5]? = _) (by decide) (List.mem_cons_of_mem _ tm3_140) rfl rfl rfl (ty := ty_Mo 11) (by decide +kernel) rfl rfl (cl_at (j := 0) rfl) (Nat.le_of_ble_eq_true rfl) ?_
  refine jr_ws (ws' := (w0 ++ [(h, .inr (5, [.int 0, .int 0, .int 0, .ref q1, .int 0, .ref q2, .ref q3, .ref q4, .int 1, .int 0, .ref q5, .ref q6, .null, .null, .null, .null, .null])), (q1, zI cI 11), (q2, zI cI 24), (q3, zI cI 264), (q4, zI cI 6), (q5, zI cI 12), (q6, zI cI 12)])) cl_set ?_
  refine jr_aload_n (q := 0) C dMo_init_58 rfl rfl ?_
  refine jr_bipush (v := 72) C dMo_init_59 (by decide) ?_
  refine jr_newI (N9 := 72) C dMo_init_61 rfl (List.mem_cons_of_mem _ tm1_62) (by decide) (by decide) (by omega) (by show _ ≤ 11; omega) (by show _ ≤ 503; omega) (fun q7 => ?_)
  refine jr_ws cl_app ?_
  refine jr_putfF (k := 12) C hin dMo_init_63 inw_Mo ty_Mo ty_Mo_ok nm_Mo (rfl : kC[5]? = _) (by decide) (List.mem_cons_of_mem _ tm3_141) rfl rfl rfl (ty := ty_Mo 12) (by decide +kernel) rfl rfl (cl_at (j := 0) rfl) (Nat.le_of_ble_eq_true rfl) ?_
  refine jr_ws (ws' := (w0 ++ [(h, .inr (5, [.int 0, .int 0, .int 0, .ref q1, .int 0, .ref q2, .ref q3, .ref q4, .int 1, .int 0, .ref q5, .ref q6, .ref q7, .null, .null, .null, .null])), (q1, zI cI 11), (q2, zI cI 24), (q3, zI cI 264), (q4, zI cI 6), (q5, zI cI 12), (q6, zI cI 12), (q7, zI cI 72)])) cl_set ?_
  refine jr_aload_n (q := 0) C dMo_init_66 rfl rfl ?_
  refine jr_bipush (v := 6) C dMo_init_67 (by decide) ?_
  refine jr_newI (N9 := 6) C dMo_init_69 rfl (List.mem_cons_of_mem _ tm1_62) (by decide) (by decide) (by omega) (by show _ ≤ 11; omega) (by show _ ≤ 503; omega) (fun q8 => ?_)
  refine jr_ws cl_app ?_
  refine jr_putfF (k := 13) C hin dMo_init_71 inw_Mo ty_Mo ty_Mo_ok nm_Mo (rfl : kC[5]? = _) (by decide) (List.mem_cons_of_mem _ tm3_142) rfl rfl rfl (ty := ty_Mo 13) (by decide +kernel) rfl rfl (cl_at (j := 0) rfl) (Nat.le_of_ble_eq_true rfl) ?_
  refine jr_ws (ws' := (w0 ++ [(h, .inr (5, [.int 0, .int 0, .int 0, .ref q1, .int 0, .ref q2, .ref q3, .ref q4, .int 1, .int 0, .ref q5, .ref q6, .ref q7, .ref q8, .null, .null, .null])), (q1, zI cI 11), (q2, zI cI 24), (q3, zI cI 264), (q4, zI cI 6), (q5, zI cI 12), (q6, zI cI 12), (q7, zI cI 72), (q8, zI cI 6)])) cl_set ?_
  refine jr_aload_n (q := 0) C dMo_init_74 rfl rfl ?_
  refine jr_bipush (v := 36) C dMo_init_75 (by decide) ?_
  refine jr_newI (N9 := 36) C dMo_init_77 rfl (List.mem_cons_of_mem _ tm1_62) (by decide) (by decide) (by omega) (by show _ ≤ 11; omega) (by show _ ≤ 503; omega) (fun q9 => ?_)
  refine jr_ws cl_app ?_
  refine jr_putfF (k := 14) C hin dMo_init_79 inw_Mo ty_Mo ty_Mo_ok nm_Mo (rfl : kC[5]? = _) (by decide) (List.mem_cons_of_mem _ tm3_143) rfl rfl rfl (ty := ty_Mo 14) (by decide +kernel) rfl rfl (cl_at (j := 0) rfl) (Nat.le_of_ble_eq_true rfl) ?_
  refine jr_ws (ws' := (w0 ++ [(h, .inr (5, [.int 0, .int 0, .int 0, .ref q1, .int 0, .ref q2, .ref q3, .ref q4, .int 1, .int 0, .ref q5, .ref q6, .ref q7, .ref q8, .ref q9, .null, .null])), (q1, zI cI 11), (q2, zI cI 24), (q3, zI cI 264), (q4, zI cI 6), (q5, zI cI 12), (q6, zI cI 12), (q7, zI cI 72), (q8, zI cI 6), (q9, zI cI 36)])) cl_set ?_
  refine jr_aload_n (q := 0) C dMo_init_82 rfl rfl ?_
  refine jr_bipush (v := 36) C dMo_init_83 (by decide) ?_
  refine jr_newI (N9 := 36) C dMo_init_85 rfl (List.mem_cons_of_mem _ tm1_62) (by decide) (by decide) (by omega) (by show _ ≤ 11; omega) (by show _ ≤ 503; omega) (fun q10 => ?_)
  refine jr_ws cl_app ?_
  refine jr_putfF (k := 15) C hin dMo_init_87 inw_Mo ty_Mo ty_Mo_ok nm_Mo (rfl : kC[5]? = _) (by decide) (List.mem_cons_of_mem _ tm3_144) rfl rfl rfl (ty := ty_Mo 15) (by decide +kernel) rfl rfl (cl_at (j := 0) rfl) (Nat.le_of_ble_eq_true rfl) ?_
  refine jr_ws (ws' := (w0 ++ [(h, .inr (5, [.int 0, .int 0, .int 0, .ref q1, .int 0, .ref q2, .ref q3, .ref q4, .int 1, .int 0, .ref q5, .ref q6, .ref q7, .ref q8, .ref q9, .ref q10, .null])), (q1, zI cI 11), (q2, zI cI 24), (q3, zI cI 264), (q4, zI cI 6), (q5, zI cI 12), (q6, zI cI 12), (q7, zI cI 72), (q8, zI cI 6), (q9, zI cI 36), (q10, zI cI 36)])) cl_set ?_
  refine jr_aload_n (q := 0) C dMo_init_90 rfl rfl ?_
  refine jr_bipush (v := 24) C dMo_init_91 (by decide) ?_
  refine jr_newI (N9 := 24) C dMo_init_93 rfl (List.mem_cons_of_mem _ tm1_62) (by decide) (by decide) (by omega) (by show _ ≤ 11; omega) (by show _ ≤ 503; omega) (fun q11 => ?_)
  refine jr_ws cl_app ?_
  refine jr_putfF (k := 16) C hin dMo_init_95 inw_Mo ty_Mo ty_Mo_ok nm_Mo (rfl : kC[5]? = _) (by decide) (List.mem_cons_of_mem _ tm3_145) rfl rfl rfl (ty := ty_Mo 16) (by decide +kernel) rfl rfl (cl_at (j := 0) rfl) (Nat.le_of_ble_eq_true rfl) ?_
  refine jr_ws (ws' := (w0 ++ [(h, .inr (5, [.int 0, .int 0, .int 0, .ref q1, .int 0, .ref q2, .ref q3, .ref q4, .int 1, .int 0, .ref q5, .ref q6, .ref q7, .ref q8, .ref q9, .ref q10, .ref q11])), (q1, zI cI 11), (q2, zI cI 24), (q3, zI cI 264), (q4, zI cI 6), (q5, zI cI 12), (q6, zI cI 12), (q7, zI cI 72), (q8, zI cI 6), (q9, zI cI 36), (q10, zI cI 36), (q11, zI cI 24)])) cl_set ?_
  have lq : ∀ n i : Nat, i ≤ 6 → 6 < i + n → jr_J p l e (headSpec wMo_init ({ frames := 1, cells := 11, slots := 503, locals := 20 })).room s m args below meth c A D kC 4 (0 + 1 + 1 + 1 + 1 + 1 + 1 + 1 + 1 + 1 + 1 + 1) (0 + 11 + 24 + 264 + 6 + 12 + 12 + 72 + 6 + 36 + 36 + 24) (MQ below (va_Qv (fun am => am 0 = h) (jr_B D kC (kT cI cII cL cJ) (fun am : Nat → Nat => w0 ++ mW cI am [] (mS0 K F)) A) A) args s 11 503 A) (w0 ++ [(h, .inr (5, [.int 0, .int (nI K), .int (nI F), .ref q1, .int 0, .ref q2, .ref q3, .ref q4, .int 1, .int 0, .ref q5, .ref q6, .ref q7, .ref q8, .ref q9, .ref q10, .ref q11])), (q1, .inl (cI, 11, .inl (fU (fun _ => 100) 11))), (q2, zI cI 24), (q3, zI cI 264), (q4, .inl (cI, 6, .inl (fU nI i))), (q5, zI cI 12), (q6, zI cI 12), (q7, zI cI 72), (q8, zI cI 6), (q9, zI cI 36), (q10, zI cI 36), (q11, zI cI 24)]) 174 [(0, .ref h), (1, .int l1), (2, .int l2), (3, .int (nI i))] [] := by
    intro n
    induction n with
    | zero => intro i h1 h2; exact absurd h2 (by omega)
    | succ n ih =>
      intro i h1 h2
      refine jr_iload_n (q := 3) C dMo_init_174 rfl rfl ?_
      refine jr_bipush (v := 6) C dMo_init_175 (by decide) ?_
      refine jr_icmp_ge (tgt := 193) C dMo_init_177 (by decide) (fun z => ?_) (fun z => ?_)
      · have e : i = 6 := by have := (nI_leI (a := 6) (b := i) (by omega) (by omega)).mp z; omega
        subst e
        exact jr_retKv (u := mAd h q1 q2 q3 q4 q5 q6 q7 q8 q9 q10 q11) C hr hlocks dMo_init_193 (by omega) (by omega) rfl rfl
      · have hlt : i < 6 := Nat.lt_of_not_le fun q => z (nI_le (a := 6) q (by omega))
        refine jr_aload_n (q := 0) C dMo_init_180 rfl rfl ?_
        refine jr_getf (k := 7) C dMo_init_181 inw_Mo (rfl : kC[5]? = _) (by decide) (List.mem_cons_of_mem _ tm3_136) rfl (cl_at (j := 0) rfl) rfl ?_
        refine jr_iload_n (q := 3) C dMo_init_184 rfl rfl ?_
        refine jr_iload_n (q := 3) C dMo_init_185 rfl rfl ?_
        refine jr_iast (t0 := 0) C dMo_init_186 (cl_at (j := 4) rfl) rfl (vp_in_nI hlt (by omega)) ?_
        refine jr_ws cl_set ?_
        rw [nI_clamp (by omega)]
        refine jr_iinc (q := 3) (v := nI (i + 1)) (lv' := [(3, .int (nI (i + 1))), (0, .ref h), (1, .int l1), (2, .int l2)]) C dMo_init_187 rfl (nI_1 i) (by decide) rfl ?_
        refine jr_goto (tgt := 174) C dMo_init_190 (by decide) ?_
        refine jr_lv (lv' := [(0, .ref h), (1, .int l1), (2, .int l2), (3, .int (nI (i + 1)))]) [1, 2, 3, 0] rfl ?_
        exact ih (i + 1) (by omega) (by omega)
  have lp : ∀ n i : Nat, i ≤ 11 → 11 < i + n → jr_J p l e (headSpec wMo_init ({ frames := 1, cells := 11, slots := 503, locals := 20 })).room s m args below meth c A D kC 4 (0 + 1 + 1 + 1 + 1 + 1 + 1 + 1 + 1 + 1 + 1 + 1) (0 + 11 + 24 + 264 + 6 + 12 + 12 + 72 + 6 + 36 + 36 + 24) (MQ below (va_Qv (fun am => am 0 = h) (jr_B D kC (kT cI cII cL cJ) (fun am : Nat → Nat => w0 ++ mW cI am [] (mS0 K F)) A) A) args s 11 503 A) (w0 ++ [(h, .inr (5, [.int 0, .int (nI K), .int (nI F), .ref q1, .int 0, .ref q2, .ref q3, .ref q4, .int 1, .int 0, .ref q5, .ref q6, .ref q7, .ref q8, .ref q9, .ref q10, .ref q11])), (q1, .inl (cI, 11, .inl (fU (fun _ => 100) i))), (q2, zI cI 24), (q3, zI cI 264), (q4, .inl (cI, 6, .inl (fU nI 0))), (q5, zI cI 12), (q6, zI cI 12), (q7, zI cI 72), (q8, zI cI 6), (q9, zI cI 36), (q10, zI cI 36), (q11, zI cI 24)]) 152 [(0, .ref h), (1, .int l1), (2, .int l2), (3, .int (nI i))] [] := by
    intro n
    induction n with
    | zero => intro i h1 h2; exact absurd h2 (by omega)
    | succ n ih =>
      intro i h1 h2
      refine jr_iload_n (q := 3) C dMo_init_152 rfl rfl ?_
      refine jr_bipush (v := 11) C dMo_init_153 (by decide) ?_
      refine jr_icmp_ge (tgt := 172) C dMo_init_155 (by decide) (fun z => ?_) (fun z => ?_)
      · have e : i = 11 := by have := (nI_leI (a := 11) (b := i) (by omega) (by omega)).mp z; omega
        subst e
        refine jr_iconst (v := 0) C dMo_init_172 (by decide) ?_
        refine jr_istore_n (lv' := [(3, .int 0), (0, .ref h), (1, .int l1), (2, .int l2)]) C dMo_init_173 rfl (by decide) rfl ?_
        refine jr_lv (lv' := [(0, .ref h), (1, .int l1), (2, .int l2), (3, .int (nI 0))]) [1, 2, 3, 0] rfl ?_
        exact lq 7 0 (by omega) (by omega)
      · have hlt : i < 11 := Nat.lt_of_not_le fun q => z (nI_le (a := 11) q (by omega))
        refine jr_aload_n (q := 0) C dMo_init_158 rfl rfl ?_
        refine jr_getf (k := 3) C dMo_init_159 inw_Mo (rfl : kC[5]? = _) (by decide) (List.mem_cons_of_mem _ tm3_132) rfl (cl_at (j := 0) rfl) rfl ?_
        refine jr_iload_n (q := 3) C dMo_init_162 rfl rfl ?_
        refine jr_bipush (v := 100) C dMo_init_163 (by decide) ?_
        refine jr_iast (t0 := 0) C dMo_init_165 (cl_at (j := 1) rfl) rfl (vp_in_nI hlt (by omega)) ?_
        refine jr_ws cl_set ?_
        rw [nI_clamp (by omega)]
        refine jr_iinc (q := 3) (v := nI (i + 1)) (lv' := [(3, .int (nI (i + 1))), (0, .ref h), (1, .int l1), (2, .int l2)]) C dMo_init_166 rfl (nI_1 i) (by decide) rfl ?_
        refine jr_goto (tgt := 152) C dMo_init_169 (by decide) ?_
        refine jr_lv (lv' := [(0, .ref h), (1, .int l1), (2, .int l2), (3, .int (nI (i + 1)))]) [1, 2, 3, 0] rfl ?_
        exact ih (i + 1) (by omega) (by omega)
  have r2 : jr_J p l e (headSpec wMo_init ({ frames := 1, cells := 11, slots := 503, locals := 20 })).room s m args below meth c A D kC 4 (0 + 1 + 1 + 1 + 1 + 1 + 1 + 1 + 1 + 1 + 1 + 1) (0 + 11 + 24 + 264 + 6 + 12 + 12 + 72 + 6 + 36 + 36 + 24) (MQ below (va_Qv (fun am => am 0 = h) (jr_B D kC (kT cI cII cL cJ) (fun am : Nat → Nat => w0 ++ mW cI am [] (mS0 K F)) A) A) args s 11 503 A) (w0 ++ [(h, .inr (5, [.int 0, .int (nI K), .int 0, .ref q1, .int 0, .ref q2, .ref q3, .ref q4, .int 1, .int 0, .ref q5, .ref q6, .ref q7, .ref q8, .ref q9, .ref q10, .ref q11])), (q1, .inl (cI, 11, .inl (fU (fun _ => 100) 0))), (q2, zI cI 24), (q3, zI cI 264), (q4, .inl (cI, 6, .inl (fU nI 0))), (q5, zI cI 12), (q6, zI cI 12), (q7, zI cI 72), (q8, zI cI 6), (q9, zI cI 36), (q10, zI cI 36), (q11, zI cI 24)]) 147 [(0, .ref h), (1, .int l1), (2, .int l2)] [.int (nI F), .ref h] := by
    refine jr_putfF (k := 2) C hin dMo_init_147 inw_Mo ty_Mo ty_Mo_ok nm_Mo (rfl : kC[5]? = _) (by decide) (List.mem_cons_of_mem _ tm3_131) rfl rfl rfl (ty := ty_Mo 2) (by decide +kernel) rfl rfl (cl_at (j := 0) rfl) (Nat.le_of_ble_eq_true rfl) ?_
    refine jr_ws cl_set ?_
    refine jr_iconst (v := 0) C dMo_init_150 (by decide) ?_
    refine jr_istore_n (lv' := [(3, .int 0), (0, .ref h), (1, .int l1), (2, .int l2)]) C dMo_init_151 rfl (by decide) rfl ?_
    refine jr_lv (lv' := [(0, .ref h), (1, .int l1), (2, .int l2), (3, .int (nI 0))]) [1, 2, 3, 0] rfl ?_
    exact lp 12 0 (by omega) (by omega)
  have r1 : jr_J p l e (headSpec wMo_init ({ frames := 1, cells := 11, slots := 503, locals := 20 })).room s m args below meth c A D kC 4 (0 + 1 + 1 + 1 + 1 + 1 + 1 + 1 + 1 + 1 + 1 + 1) (0 + 11 + 24 + 264 + 6 + 12 + 12 + 72 + 6 + 36 + 36 + 24) (MQ below (va_Qv (fun am => am 0 = h) (jr_B D kC (kT cI cII cL cJ) (fun am : Nat → Nat => w0 ++ mW cI am [] (mS0 K F)) A) A) args s 11 503 A) (w0 ++ [(h, .inr (5, [.int 0, .int 0, .int 0, .ref q1, .int 0, .ref q2, .ref q3, .ref q4, .int 1, .int 0, .ref q5, .ref q6, .ref q7, .ref q8, .ref q9, .ref q10, .ref q11])), (q1, .inl (cI, 11, .inl (fU (fun _ => 100) 0))), (q2, zI cI 24), (q3, zI cI 264), (q4, .inl (cI, 6, .inl (fU nI 0))), (q5, zI cI 12), (q6, zI cI 12), (q7, zI cI 72), (q8, zI cI 6), (q9, zI cI 36), (q10, zI cI 36), (q11, zI cI 24)]) 120 [(0, .ref h), (1, .int l1), (2, .int l2)] [.int (nI K), .ref h] := by
    refine jr_putfF (k := 1) C hin dMo_init_120 inw_Mo ty_Mo ty_Mo_ok nm_Mo (rfl : kC[5]? = _) (by decide) (List.mem_cons_of_mem _ tm3_130) rfl rfl rfl (ty := ty_Mo 1) (by decide +kernel) rfl rfl (cl_at (j := 0) rfl) (Nat.le_of_ble_eq_true rfl) ?_
    refine jr_ws cl_set ?_
    refine jr_aload_n (q := 0) C dMo_init_123 rfl rfl ?_
    refine jr_iconst (v := 3) C dMo_init_124 (by decide) ?_
    refine jr_iload_n (q := 2) C dMo_init_125 rfl rfl ?_
    refine jr_iconst (v := 1) C dMo_init_126 (by decide) ?_
    refine jr_icmp_ge (tgt := 134) C dMo_init_127 (by decide) (fun z => ?_) (fun z => ?_)
    · refine jr_iload_n (q := 2) C dMo_init_134 rfl rfl ?_
      refine jr_bipush (v := 8) C dMo_init_135 (by decide) ?_
      refine jr_icmp_le (tgt := 145) C dMo_init_137 (by decide) (fun z2 => ?_) (fun z2 => ?_)
      · refine jr_iload_n (q := 2) C dMo_init_145 rfl rfl ?_
        refine jr_iadd C dMo_init_146 ?_
        refine jr_topi ((kC2_c z z2).trans hFe) ?_
        exact r2
      · refine jr_bipush (v := 8) C dMo_init_140 (by decide) ?_
        refine jr_goto (tgt := 146) C dMo_init_142 (by decide) ?_
        refine jr_iadd C dMo_init_146 ?_
        refine jr_topi ((kC2_b z2).trans hFe) ?_
        exact r2
    · refine jr_iconst (v := 1) C dMo_init_130 (by decide) ?_
      refine jr_goto (tgt := 146) C dMo_init_131 (by decide) ?_
      refine jr_iadd C dMo_init_146 ?_
      refine jr_topi ((kC2_a z).trans hFe) ?_
      exact r2
  refine jr_aload_n (q := 0) C dMo_init_98 rfl rfl ?_
  refine jr_iload_n (q := 1) C dMo_init_99 rfl rfl ?_
  refine jr_iconst (v := 1) C dMo_init_100 (by decide) ?_
  refine jr_icmp_ge (tgt := 108) C dMo_init_101 (by decide) (fun z => ?_) (fun z => ?_)
  · refine jr_iload_n (q := 1) C dMo_init_108 rfl rfl ?_
    refine jr_bipush (v := 6) C dMo_init_109 (by decide) ?_
    refine jr_icmp_le (tgt := 119) C dMo_init_111 (by decide) (fun z2 => ?_) (fun z2 => ?_)
    · refine jr_iload_n (q := 1) C dMo_init_119 rfl rfl ?_
      refine jr_topi ((kC1_c z z2).trans hKe) ?_
      exact r1
    · refine jr_bipush (v := 6) C dMo_init_114 (by decide) ?_
      refine jr_goto (tgt := 120) C dMo_init_116 (by decide) ?_
      refine jr_topi ((kC1_b z2).trans hKe) ?_
      exact r1
  · refine jr_iconst (v := 1) C dMo_init_104 (by decide) ?_
    refine jr_goto (tgt := 120) C dMo_init_105 (by decide) ?_
    refine jr_topi ((kC1_a z).trans hKe) ?_
    exact r1
end CM
