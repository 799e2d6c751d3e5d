/-- what the law reads of its script: 0 behind its end -/
def lAt (L : Nat) (xs : Nat → Int32) (k : Nat) : Int32 := if k < L then xs k else 0
def jr_PreS (D : va_G) (cl : List vw_C) (tys : List (ClassId × FieldType)) (ws : va_W) (b L : Nat) (xs : Nat → Int32) (sz : Nat) (U : State) : Prop := jr_Pre D cl tys ws sz U ∧ va_X b L xs U U.heap ∧ ¬ va_A ws sz b
theorem jr_blindS {D : va_G} {cl : List vw_C} {tys : List (ClassId × FieldType)} {ws : va_W} {b L : Nat} {xs : Nat → Int32} {sz : Nat} {av : List Value} : FrameBlind (va_Pc av (jr_PreS D cl tys ws b L xs sz)) :=
  fun a U g mk q => ⟨q.1, (jr_blind (av := av) a U g mk ⟨q.1, q.2.1⟩).2, va_X.moved (U := U) (Vm.Alike.refl U.vm) q.2.2.1, q.2.2.2⟩
set_option maxRecDepth 100000 in
set_option maxHeartbeats 4000000 in
theorem c_Lw_at {l : Launch} {D : va_G} {tys : List (ClassId × FieldType)} {ws : va_W} {b L : Nat} {xs : Nat → Int32} (k : Nat) (hk : k < 2) (hL : L ≤ 2562) : ∀ sz : Nat, Met l yLw_at wLw_at ({ frames := 0, cells := 0, slots := 0, locals := 0 }) (va_Pc [.ref b, .int (nI k)] (jr_PreS D kC tys ws b L xs sz)) (va_Qi (fun (r : Int32) (_ : Unit) => r = lAt L xs k) (jr_B D kC tys (fun _ : Unit => ws) (va_A ws sz)) (va_A ws sz)) 0 0 (va_A ws sz) := by
  intro sz
  refine Met.ofW (cc := bLw_at) (maxL := 2) (ret := some .int) (by decide) rfl ?_
  intro p e s m args below meth c s₁ B hml hv
  obtain ⟨rfl, ⟨hsz, hP, hK, hD0, hN⟩, hX, hbA⟩ := hv
  subst hsz
  have hl := lv_entry ([.ref b, .int (nI k)]) (n := 2) (Nat.le_of_ble_eq_true rfl)
  rw [lg_entry_eq]
  have hbl : b < s.heap.size := Nat.lt_of_not_le fun q => hbA (Or.inr q)
  have C : jr_C p s m _ c bLw_at 2 "KindTablesLaw" wLw_at D kC tys (va_A ws s.heap.size) := ⟨B.exec, B.bytes, hml, findClass_of_methodNamed B.named, atoms_spec (ws := wLw_at) B.pre, hK, fun q h => Or.inr h, hN⟩
  have hr := B.returns
  have hlocks := B.notSynchronized
  suffices h : jr_J p l e (headSpec wLw_at ({ frames := 0, cells := 0, slots := 0, locals := 0 })).room s m ([.ref b, .int (nI k)] : List Value).toArray below meth c (va_A ws s.heap.size) D kC 2 0 0 (MQ below (va_Qi (fun (r : Int32) (_ : Unit) => r = lAt L xs k) (jr_B D kC tys (fun _ : Unit => ws) (va_A ws s.heap.size)) (va_A ws s.heap.size)) ([.ref b, .int (nI k)] : List Value).toArray s 0 0 (va_A ws s.heap.size)) ws 0 [(0, .ref b), (1, .int (nI k))] [] from h s.heap [] _ hP hD0.self va_S.rf hl
  refine jr_iload_n (q := 1) C dLw_at_0 rfl rfl ?_
  refine jr_aload_n (q := 0) C dLw_at_1 rfl rfl ?_
  refine jr_slen C hX hbl hbA dLw_at_2 ?_
  refine jr_icmp_ge (tgt := 12) C dLw_at_3 (by decide) (fun z => ?_) (fun z => ?_)
  · refine jr_iconst (v := 0) C dLw_at_12 (by decide) ?_
    have h9 : L ≤ k := (nI_leI (by omega) (by omega)).mp z
    exact jr_reti (wf := fun _ : Unit => ws) (u := ()) C hr hlocks dLw_at_13 (by unfold lAt; rw [if_neg (by omega)]) rfl
  · have h9 : k < L := Nat.lt_of_not_le fun q => z (nI_le q (by omega))
    refine jr_aload_n (q := 0) C dLw_at_6 rfl rfl ?_
    refine jr_iload_n (q := 1) C dLw_at_7 rfl rfl ?_
    refine jr_sld C hX hbl hbA (vp_in_nI h9 (by omega)) dLw_at_8 ?_
    refine jr_goto (tgt := 13) C dLw_at_9 (by decide) ?_
    exact jr_reti (wf := fun _ : Unit => ws) (u := ()) C hr hlocks dLw_at_13 (by unfold lAt; rw [if_pos h9, nI_clamp (by omega)]) rfl
/-- the call of it -/
theorem jr_callAt {p : Program} {l : Launch} {e : Env} {R : Room} {s : State} {m : MethodId} {args : Array Value} {below : List Frame} {meth : Method} {c : Code} {A : Nat → Prop} {D : va_G} {nL cells slots : Nat} {Q : State → Prop} {ws : va_W} {pc : Nat} {lv : List (Nat × Value)} {rest : List Value} {cc : ByteArray} {own : String} {Ts : List Cond} {tys : List (ClassId × FieldType)} {b L : Nat} {xs : Nat → Int32} {index : Nat} (C : jr_C p s m args c cc nL own Ts D kC tys A) (k : Nat) (hk : k < 2) (hL : L ≤ 2562) (hX : va_X b L xs s s.heap) (hbl : b < s.heap.size) (hbA : ¬ A b) (cw : CallB R s args own index yLw_at bLw_at 2 (some .int) wLw_at ({ frames := 0, cells := 0, slots := 0, locals := 0 }) 0 0 2 ∧ (Cond.static yLw_at).before args s = true) (hdg : decode cc pc = .ok (.invokestatic index, 3)) (hro : (rest.map fun v => v.category).sum ≤ 8) (hcl : cells ≤ R.cells ∧ slots ≤ R.slots)
    (kk : jr_J p l e R s m args below meth c A D kC nL cells slots Q ws (pc + 3) lv (.int (lAt L xs k) :: rest)) : jr_J p l e R s m args below meth c A D kC nL cells slots Q ws pc lv (.int (nI k) :: .ref b :: rest) := by
  intro H locs ls hP hD hS hl
  have hF : ∀ q, va_A ws H.size q → A q := jr_free hD hS C.2.2.2.2.2.2.1
  refine va_calli (va_runS (As := [.ref b, .int (nI k)]) (rest := rest) ⟨C.1, C.2.1, C.2.2.1, C.2.2.2.1, C.2.2.2.2.1⟩ (c_Lw_at (l := l) (D := D) (tys := tys) (ws := ws) (b := b) (L := L) (xs := xs) k hk hL H.size) cw ⟨jr_blindS, fun U hU hW => ⟨rfl, ⟨by rw [hU], by rw [hU]; exact hP, va_K.moved hW.alike C.2.2.2.2.2.1, hD.weaken (fun _ _ _ _ => trivial), C.2.2.2.2.2.2.2.warm hW⟩, by rw [hU]; exact va_X.moved hW.alike (va_X.kept hX (hS.2.1 b hbl hbA)), fun q => hbA (hF b q)⟩⟩ rfl rfl hl.1 rfl (lv_room hro) hdg hcl) hS (fun q _ h => hF q h) hF (fun r u t H1 locs1 ht hvm hw hB hz hk9 hS1 => ?_)
  obtain ⟨hP1, hK1, hD1⟩ := hB
  rw [ht] at hP1
  rw [hw]
  exact kk H1 locs1 ls hP1 (hD1.weaken fun _ _ _ h => hF _ h) hS1 hl
theorem jnw_in : ∀ w ∈ jnw, w ∈ lw_tbl := by decide +kernel
set_option maxRecDepth 100000 in
set_option maxHeartbeats 4000000 in
/-- the law from its entry, over what the pure side owes -/
theorem whole_from (Rl : Nat → Nat → jS → jS → Prop) (HI : ∀ K F : Nat, 1 ≤ K → K ≤ 6 → 4 ≤ F → F ≤ 11 → Rl K F (kS0 K F) (mS0 K F)) (H0 : ∀ K F : Nat, 1 ≤ K → K ≤ 6 → 4 ≤ F → F ≤ 11 → lOwe wc_0 K F (Rl K F)) (H1 : ∀ K F : Nat, 1 ≤ K → K ≤ 6 → 4 ≤ F → F ≤ 11 → lOwe wc_1 K F (Rl K F)) (H2 : ∀ K F : Nat, 1 ≤ K → K ≤ 6 → 4 ≤ F → F ≤ 11 → lOwe wc_2 K F (Rl K F)) (H3 : ∀ K F : Nat, 1 ≤ K → K ≤ 6 → 4 ≤ F → F ≤ 11 → lOwe wc_3 K F (Rl K F)) (H4 : ∀ K F : Nat, 1 ≤ K → K ≤ 6 → 4 ≤ F → F ≤ 11 → lOwe wc_4 K F (Rl K F)) (H5 : ∀ K F : Nat, 1 ≤ K → K ≤ 6 → 4 ≤ F → F ≤ 11 → lOwe wc_5 K F (Rl K F)) (H6 : ∀ K F : Nat, 1 ≤ K → K ≤ 6 → 4 ≤ F → F ≤ 11 → lOwe wc_6 K F (Rl K F)) (H7 : ∀ K F : Nat, 1 ≤ K → K ≤ 6 → 4 ≤ F → F ≤ 11 → lOwe wc_7 K F (Rl K F)) (H8 : ∀ K F : Nat, 1 ≤ K → K ≤ 6 → 4 ≤ F → F ≤ 11 → lOwe wc_8 K F (Rl K F)) (H9 : ∀ K F : Nat, 1 ≤ K → K ≤ 6 → 4 ≤ F → F ≤ 11 → lOwe wc_9 K F (Rl K F)) (H10 : ∀ K F : Nat, 1 ≤ K → K ≤ 6 → 4 ≤ F → F ≤ 11 → lOwe wc_10 K F (Rl K F)) (H11 : ∀ K F : Nat, 1 ≤ K → K ≤ 6 → 4 ≤ F → F ≤ 11 → lOwe wc_11 K F (Rl K F)) (H12 : ∀ K F : Nat, 1 ≤ K → K ≤ 6 → 4 ≤ F → F ≤ 11 → lOwe wc_12 K F (Rl K F)) (H13 : ∀ K F : Nat, 1 ≤ K → K ≤ 6 → 4 ≤ F → F ≤ 11 → lOwe wc_13 K F (Rl K F)) (H14 : ∀ K F : Nat, 1 ≤ K → K ≤ 6 → 4 ≤ F → F ≤ 11 → lOwe wc_14 K F (Rl K F)) (H15 : ∀ K F : Nat, 1 ≤ K → K ≤ 6 → 4 ≤ F → F ≤ 11 → lOwe wc_15 K F (Rl K F)) (H16 : ∀ K F : Nat, 1 ≤ K → K ≤ 6 → 4 ≤ F → F ≤ 11 → lOwe wc_16 K F (Rl K F)) (H17 : ∀ K F : Nat, 1 ≤ K → K ≤ 6 → 4 ≤ F → F ≤ 11 → lOwe wc_17 K F (Rl K F)) (H18 : ∀ K F : Nat, 1 ≤ K → K ≤ 6 → 4 ≤ F → F ≤ 11 → lOwe wc_18 K F (Rl K F)) (H19 : ∀ K F : Nat, 1 ≤ K → K ≤ 6 → 4 ≤ F → F ≤ 11 → lOwe wc_19 K F (Rl K F)) (H20 : ∀ K F : Nat, 1 ≤ K → K ≤ 6 → 4 ≤ F → F ≤ 11 → lOwe wc_20 K F (Rl K F)) (H21 : ∀ K F : Nat, 1 ≤ K → K ≤ 6 → 4 ≤ F → F ≤ 11 → lOwe wc_21 K F (Rl K F)) (H22 : ∀ K F : Nat, 1 ≤ K → K ≤ 6 → 4 ≤ F → F ≤ 11 → lOwe wc_22 K F (Rl K F)) (H23 : ∀ K F : Nat, 1 ≤ K → K ≤ 6 → 4 ≤ F → F ≤ 11 → lOwe wc_23 K F (Rl K F)) {p : Program} {e : Env} {s : State} {m : MethodId} {below : List Frame} {meth : Method} {c : Code} (l : Launch) (hl0 : l.stackTraces = false) {b L : Nat} {xs : Nat → Int32} (hL : L ≤ 2562) (C0 : lw_At p s m meth c b L xs) : W p l e room_1 s m #[Value.ref b] below meth c s.heap [] 0 0 (lw_Z below #[Value.ref b] s) (entryFrame m ([Value.ref b] : List Value).toArray 8) := by
  obtain ⟨hx, hb, hr, hml, hown, hts, hX, hbl, hlocks, hgv⟩ := id C0
  have hf := flat_of_before _ hgv
  have htw : ∀ w ∈ lTs, w.before #[Value.ref b] s = true := fun w h => (List.mem_cons.mp h).elim (fun e9 => e9 ▸ hts _ (List.mem_filter.mp tm1_1).1) (fun q => hts w (List.mem_filter.mp q).1)
  have hN : jN s := fun w hw => va_Nw.of (jnw_on w hw) (hts w (jnw_in w hw))
  obtain ⟨c0, iS0, hKn0⟩ := u_known (C := "KindTables") (T := T_KT) (N := 6) (n := 6) htw inw_KT (htw _ (List.mem_cons_of_mem _ tm1_15))
  obtain ⟨c1, iS1, hKn1⟩ := u_known (C := "KindTables$Examples") (T := T_Ex) (N := 6) (n := 6) htw inw_Ex (htw _ (List.mem_cons_of_mem _ tm1_29))
  obtain ⟨c2, iS2, hKn2⟩ := u_known (C := "KindTables$Teller") (T := T_Te) (N := 6) (n := 6) htw inw_Te (htw _ (List.mem_cons_of_mem _ tm1_64))
  obtain ⟨c3, iS3, hKn3⟩ := u_known (C := "KindTables$Hauls") (T := T_Ha) (N := 5) (n := 5) htw inw_Ha (htw _ (List.mem_cons_of_mem _ tm1_90))
  obtain ⟨c4, iS4, hKn4⟩ := u_known (C := "KindTables$Law") (T := T_La) (N := 3) (n := 3) htw inw_La (htw _ (List.mem_cons_of_mem _ tm1_116))
  obtain ⟨c5, iS5, hKn5⟩ := u_known (C := "KindTablesModel") (T := T_Mo) (N := 17) (n := 17) htw inw_Mo (htw _ (List.mem_cons_of_mem _ tm3_124))
  obtain ⟨dC, dI, hKc⟩ : ∃ (dC : Nat → ClassId) (dI : Nat → Nat → Nat), ∀ (k : Nat) (q : vw_C), kC[k]? = some q → u_Kn s q.1 q.2.1 q.2.2 (dC k) (dI k) := by
    refine ⟨fun k => match k with | 0 => c0 | 1 => c1 | 2 => c2 | 3 => c3 | 4 => c4 | _ => c5, fun k => match k with | 0 => iS0 | 1 => iS1 | 2 => iS2 | 3 => iS3 | 4 => iS4 | _ => iS5, ?_⟩
    intro k q hq
    match k, hq with
    | 0, hq => cases hq; exact hKn0
    | 1, hq => cases hq; exact hKn1
    | 2, hq => cases hq; exact hKn2
    | 3, hq => cases hq; exact hKn3
    | 4, hq => cases hq; exact hKn4
    | 5, hq => cases hq; exact hKn5
    | k + 6, hq => simp [kC] at hq
  obtain ⟨cI, kI, pI, fI, gI, eI⟩ := Cond.arrayClass_spec (htw _ (List.mem_cons_of_mem _ tm1_62))
  obtain ⟨cJ, kJ, pJ, fJ, gJ, eJ⟩ := Cond.arrayClass_spec (htw _ (List.mem_cons_of_mem _ tm4_106))
  have hAA : va_AOA .int s := va_AOA.of (hts (Cond.arrayOver (.array .int)) (by decide +kernel))
  have hAL : va_AO "KindTables$Law" s := va_AO.of (hts (Cond.arrayOver (.object "KindTables$Law")) (by decide +kernel))
  obtain ⟨pA, cII, kA, fA0, gA, eA, fA⟩ := Cond.arrayOver_specA hAA
  obtain ⟨pL, cL, kL, fL0, iL, gL, eL, fL⟩ := Cond.arrayOver_spec hAL
  have hK : va_K (dC, dI) kC (kT cI cII cL cJ) s := by
    refine ⟨hKc, fun k q hq => ?_⟩
    match k, hq with
    | 0, hq => cases hq; exact ⟨fun n z => ⟨fun q hq => (by cases hq), kI, gI, pI, eI⟩, fI⟩
    | 1, hq => cases hq; exact ⟨fun n z => ⟨fun q hq => (by cases hq), kA, gA, pA, eA⟩, fA⟩
    | 2, hq => cases hq; exact ⟨fun n z => ⟨fun q hq => (by cases hq), kL, gL, pL, eL⟩, kL, pL, gL, eL, fL0, fL⟩
    | 3, hq => cases hq; exact ⟨fun n z => ⟨fun q hq => (by cases hq), kJ, gJ, pJ, eJ⟩, fJ⟩
    | k + 4, hq => simp [kT] at hq
  have hA : ∀ q : Nat, s.heap.size ≤ q → (fun q : Nat => s.heap.size ≤ q) q := fun _ h => h
  have hAn : ∀ a : Nat, a < s.heap.size → ¬ (fun q : Nat => s.heap.size ≤ q) a := fun _ h => Nat.not_le.mpr h
  have hZ : jr_Z (fun q : Nat => s.heap.size ≤ q) s s.heap := ⟨vx_Zqof (args := #[Value.ref b]) (hts _ (by decide +kernel)) (htw _ (List.mem_cons_of_mem _ tm1_8)) (hf _ (by decide +kernel)) hAn, vx_Zqof (args := #[Value.ref b]) (hts _ (by decide +kernel)) (htw _ (List.mem_cons_of_mem _ tm1_8)) (hf _ (by decide +kernel)) hAn⟩
  have hnc : jNc s := by
    intro q hq
    unfold jnc at hq
    rcases List.mem_cons.mp hq with rfl | hq
    · exact va_Nc.of (args := #[Value.ref b]) (hf _ (by decide +kernel))
    rcases List.mem_cons.mp hq with rfl | hq
    · exact va_Nc.of (args := #[Value.ref b]) (hf _ (by decide +kernel))
    rcases List.mem_cons.mp hq with rfl | hq
    · exact va_Nc.of (args := #[Value.ref b]) (hf _ (by decide +kernel))
    rcases List.mem_cons.mp hq with rfl | hq
    · exact va_Nc.of (args := #[Value.ref b]) (hf _ (by decide +kernel))
    rcases List.mem_cons.mp hq with rfl | hq
    · exact va_Nc.of (args := #[Value.ref b]) (hf _ (by decide +kernel))
    rcases List.mem_cons.mp hq with rfl | hq
    · exact va_Nc.of (args := #[Value.ref b]) (hf _ (by decide +kernel))
    exact nomatch hq
  obtain ⟨sa0, _, _, _, hsa0, -⟩ := Cond.exactly_spec (hf (Cond.exactly (Term.string "KindTables" 188) "java/lang/String") (by decide +kernel))
  obtain ⟨sa1, _, _, _, hsa1, -⟩ := Cond.exactly_spec (hf (Cond.exactly (Term.string "KindTables" 65) "java/lang/String") (by decide +kernel))
  obtain ⟨sa2, _, _, _, hsa2, -⟩ := Cond.exactly_spec (hf (Cond.exactly (Term.string "KindTables" 193) "java/lang/String") (by decide +kernel))
  obtain ⟨sa3, _, _, _, hsa3, -⟩ := Cond.exactly_spec (hf (Cond.exactly (Term.string "KindTables" 191) "java/lang/String") (by decide +kernel))
  obtain ⟨sa4, _, _, _, hsa4, -⟩ := Cond.exactly_spec (hf (Cond.exactly (Term.string "KindTables" 199) "java/lang/String") (by decide +kernel))
  obtain ⟨sa5, _, _, _, hsa5, -⟩ := Cond.exactly_spec (hf (Cond.exactly (Term.string "KindTables" 197) "java/lang/String") (by decide +kernel))
  obtain ⟨sa6, _, _, _, hsa6, -⟩ := Cond.exactly_spec (hf (Cond.exactly (Term.string "KindTables" 141) "java/lang/String") (by decide +kernel))
  obtain ⟨sa7, _, _, _, hsa7, -⟩ := Cond.exactly_spec (hf (Cond.exactly (Term.string "KindTables" 155) "java/lang/String") (by decide +kernel))
  obtain ⟨sa8, _, _, _, hsa8, -⟩ := Cond.exactly_spec (hf (Cond.exactly (Term.string "KindTables" 195) "java/lang/String") (by decide +kernel))
  obtain ⟨sa9, _, _, _, hsa9, -⟩ := Cond.exactly_spec (hf (Cond.exactly (Term.string "KindTables" 172) "java/lang/String") (by decide +kernel))
  obtain ⟨sa10, _, _, _, hsa10, -⟩ := Cond.exactly_spec (hf (Cond.exactly (Term.string "KindTables" 177) "java/lang/String") (by decide +kernel))
  obtain ⟨sa, hsa⟩ : ∃ sa : Nat → Nat, sa = fun k => match k with | 0 => sa0 | 1 => sa1 | 2 => sa2 | 3 => sa3 | 4 => sa4 | 5 => sa5 | 6 => sa6 | 7 => sa7 | 8 => sa8 | 9 => sa9 | _ => sa10 := ⟨_, rfl⟩
  have hs9 : ∀ q ∈ kS sa, vk_R q.1 q.2.1 q.2.2.1 q.2.2.2 s := by
    subst hsa
    intro q hq
    unfold kS at hq
    rcases List.mem_cons.mp hq with rfl | hq
    · exact vk_R.of (A := #[Value.ref b]) (hts (Cond.stringRef "KindTables" 188 "no such kind") (by decide +kernel)) hsa0
    rcases List.mem_cons.mp hq with rfl | hq
    · exact vk_R.of (A := #[Value.ref b]) (hts (Cond.stringRef "KindTables" 65 "no room for another example") (by decide +kernel)) hsa1
    rcases List.mem_cons.mp hq with rfl | hq
    · exact vk_R.of (A := #[Value.ref b]) (hts (Cond.stringRef "KindTables" 193 "no such example") (by decide +kernel)) hsa2
    rcases List.mem_cons.mp hq with rfl | hq
    · exact vk_R.of (A := #[Value.ref b]) (hts (Cond.stringRef "KindTables" 191 "no such feature") (by decide +kernel)) hsa3
    rcases List.mem_cons.mp hq with rfl | hq
    · exact vk_R.of (A := #[Value.ref b]) (hts (Cond.stringRef "KindTables" 199 "a number outside its bounds") (by decide +kernel)) hsa4
    rcases List.mem_cons.mp hq with rfl | hq
    · exact vk_R.of (A := #[Value.ref b]) (hts (Cond.stringRef "KindTables" 197 "no such part") (by decide +kernel)) hsa5
    rcases List.mem_cons.mp hq with rfl | hq
    · exact vk_R.of (A := #[Value.ref b]) (hts (Cond.stringRef "KindTables" 141 "a place below 0") (by decide +kernel)) hsa6
    rcases List.mem_cons.mp hq with rfl | hq
    · exact vk_R.of (A := #[Value.ref b]) (hts (Cond.stringRef "KindTables" 155 "no room for another haul") (by decide +kernel)) hsa7
    rcases List.mem_cons.mp hq with rfl | hq
    · exact vk_R.of (A := #[Value.ref b]) (hts (Cond.stringRef "KindTables" 195 "no such haul") (by decide +kernel)) hsa8
    rcases List.mem_cons.mp hq with rfl | hq
    · exact vk_R.of (A := #[Value.ref b]) (hts (Cond.stringRef "KindTables" 172 "a length not above the last row's") (by decide +kernel)) hsa9
    rcases List.mem_cons.mp hq with rfl | hq
    · exact vk_R.of (A := #[Value.ref b]) (hts (Cond.stringRef "KindTables" 177 "no room for another row") (by decide +kernel)) hsa10
    exact nomatch hq
  obtain ⟨K, hK1, hK6, hKe⟩ := kC1_in (lAt L xs 0)
  obtain ⟨F, hF4, hF11, hFe⟩ := kC2_in (lAt L xs 1)
  have C : jr_C p s m #[Value.ref b] c code 8 "KindTablesLaw" lTs (dC, dI) kC (kT cI cII cL cJ) (fun q : Nat => s.heap.size ≤ q) := ⟨hx, hb, hml, hown, htw, hK, hA, hN⟩
  have hbA : ¬ (fun q : Nat => s.heap.size ≤ q) b := Nat.not_le.mpr hbl
  have hl := lv_entry ([.ref b]) (n := 8) (Nat.le_of_ble_eq_true rfl)
  rw [lg_entry_eq]
  suffices hJ : jr_J p l e room_1 s m #[Value.ref b] below meth c (fun q : Nat => s.heap.size ≤ q) (dC, dI) kC 8 0 0 (lw_Z below #[Value.ref b] s) [] 0 [(0, .ref b)] [] from hJ s.heap [] _ (fun k q h => by simp at h) ⟨fun i j p q h => by simp at h, fun k q h => by simp at h⟩ va_S.rf hl
  refine jr_new (fs := [.int 0, .int 0, .null, .null, .null, .null]) C dLw_main_0 inw_KT ty_KT ty_KT_ok (List.mem_cons_of_mem _ tm1_14) (List.mem_cons_of_mem _ tm1_15) (List.mem_cons_of_mem _ tm1_1) (rfl : kC[0]? = _) dv_KT (by show _ ≤ 644430; omega) (by show _ ≤ 7162781; omega) (fun q0 => ?_)
  refine jr_dup C dLw_main_3 rfl ?_
  refine jr_aload_n (q := 0) C dLw_main_4 rfl rfl ?_
  refine jr_iconst (v := nI 0) C dLw_main_5 (by decide) ?_
  refine jr_callAt C 0 (by omega) hL hX hbl hbA (va_cwS 2 C.2.2.2.2.1 (tg_S tm1_187 tm1_188 tm1_0 tm1_189) rfl rfl rfl ⟨by decide, by decide, by decide⟩ ⟨Nat.le_of_ble_eq_true rfl, Nat.le_of_ble_eq_true rfl⟩) dLw_main_6 (Nat.le_of_ble_eq_true rfl) ⟨by show _ ≤ 644430; omega, by show _ ≤ 7162781; omega⟩ ?_
  refine jr_aload_n (q := 0) C dLw_main_9 rfl rfl ?_
  refine jr_iconst (v := nI 1) C dLw_main_10 (by decide) ?_
  refine jr_callAt C 1 (by omega) hL hX hbl hbA (va_cwS 2 C.2.2.2.2.1 (tg_S tm1_187 tm1_188 tm1_0 tm1_189) rfl rfl rfl ⟨by decide, by decide, by decide⟩ ⟨Nat.le_of_ble_eq_true rfl, Nat.le_of_ble_eq_true rfl⟩) dLw_main_11 (Nat.le_of_ble_eq_true rfl) ⟨by show _ ≤ 644430; omega, by show _ ≤ 7162781; omega⟩ ?_
  refine jr_callI (mc := 68) (ms := 591) (As := [.int (lAt L xs 0), .int (lAt L xs 1)]) (rest := [.ref q0]) C ⟨hAA, hAL⟩ (k_KT hK1 hK6 hF4 hF11 hKe hFe q0) (cwI 2 C.2.2.2.2.1 (tg_N tm1_18) rfl rfl rfl (C.2.2.2.2.1 _ (List.mem_cons_of_mem _ tm1_1)) (C.2.2.2.2.1 _ (List.mem_cons_of_mem _ tm1_16)) (C.2.2.2.2.1 _ (List.mem_cons_of_mem _ tm1_17)) rfl ⟨by decide, by decide, by decide⟩ ⟨Nat.le_of_ble_eq_true rfl, Nat.le_of_ble_eq_true rfl⟩) dLw_main_14 rfl rfl (Nat.le_of_ble_eq_true rfl) ⟨by show _ ≤ 644430; omega, by show _ ≤ 7162781; omega⟩ (fun ad had => ?_)
  have had : ad 0 = q0 := had
  refine jr_astore_n (lv' := [(1, .ref q0), (0, .ref b)]) C dLw_main_17 rfl (by decide) rfl ?_
  refine jr_new (fs := [.int 0, .int 0, .int 0, .null, .int 0, .null, .null, .null, .int 0, .int 0, .null, .null, .null, .null, .null, .null, .null]) C dLw_main_18 inw_Mo ty_Mo ty_Mo_ok (List.mem_cons_of_mem _ tm3_123) (List.mem_cons_of_mem _ tm3_124) (List.mem_cons_of_mem _ tm1_7) (rfl : kC[5]? = _) dv_Mo (by show _ ≤ 644430; omega) (by show _ ≤ 7162781; omega) (fun q9 => ?_)
  refine jr_dup C dLw_main_21 rfl ?_
  refine jr_aload_n (q := 1) C dLw_main_22 rfl rfl ?_
  refine jr_iconst (v := nI 0) C dLw_main_23 (by decide) ?_
  refine jr_callAt C 0 (by omega) hL hX hbl hbA (va_cwS 2 C.2.2.2.2.1 (tg_S tm1_187 tm1_188 tm1_0 tm1_189) rfl rfl rfl ⟨by decide, by decide, by decide⟩ ⟨Nat.le_of_ble_eq_true rfl, Nat.le_of_ble_eq_true rfl⟩) dLw_main_24 (Nat.le_of_ble_eq_true rfl) ⟨by show _ ≤ 644430; omega, by show _ ≤ 7162781; omega⟩ ?_
  refine jr_aload_n (q := 1) C dLw_main_27 rfl rfl ?_
  refine jr_iconst (v := nI 1) C dLw_main_28 (by decide) ?_
  refine jr_callAt C 1 (by omega) hL hX hbl hbA (va_cwS 2 C.2.2.2.2.1 (tg_S tm1_187 tm1_188 tm1_0 tm1_189) rfl rfl rfl ⟨by decide, by decide, by decide⟩ ⟨Nat.le_of_ble_eq_true rfl, Nat.le_of_ble_eq_true rfl⟩) dLw_main_29 (Nat.le_of_ble_eq_true rfl) ⟨by show _ ≤ 644430; omega, by show _ ≤ 7162781; omega⟩ ?_
  refine jr_callI (mc := 11) (ms := 503) (As := [.int (lAt L xs 0), .int (lAt L xs 1)]) (rest := [.ref q9]) C ⟨hAA, hAL⟩ (k_Mo hKe hFe q9) (cwI 2 C.2.2.2.2.1 (tg_N tm3_127) rfl rfl rfl (C.2.2.2.2.1 _ (List.mem_cons_of_mem _ tm1_7)) (C.2.2.2.2.1 _ (List.mem_cons_of_mem _ tm3_125)) (C.2.2.2.2.1 _ (List.mem_cons_of_mem _ tm3_126)) rfl ⟨by decide, by decide, by decide⟩ ⟨Nat.le_of_ble_eq_true rfl, Nat.le_of_ble_eq_true rfl⟩) dLw_main_32 rfl rfl (Nat.le_of_ble_eq_true rfl) ⟨by show _ ≤ 644430; omega, by show _ ≤ 7162781; omega⟩ (fun am ham => ?_)
  have ham : am 0 = q9 := ham
  refine jr_astore_n (lv' := [(2, .ref q9), (1, .ref q0), (0, .ref b)]) C dLw_main_35 rfl (by decide) rfl ?_
  refine jr_iconst (v := 1) C dLw_main_36 (by decide) ?_
  refine jr_newJ (N9 := 1) C dLw_main_37 rfl (List.mem_cons_of_mem _ tm4_106) (by decide) (by decide) (by omega) (by show _ ≤ 644430; omega) (by show _ ≤ 7162781; omega) (fun ao => ?_)
  refine jr_astore_n (lv' := [(3, .ref ao), (2, .ref q9), (1, .ref q0), (0, .ref b)]) C dLw_main_39 rfl (by decide) rfl ?_
  refine jr_iconst (v := nI 2) C dLw_main_40 (by decide) ?_
  refine jr_istore (lv' := [(4, .int (nI 2)), (3, .ref ao), (2, .ref q9), (1, .ref q0), (0, .ref b)]) C dLw_main_41 (by decide) rfl ?_
  refine jr_lv (lv' := [(0, .ref b), (1, .ref q0), (2, .ref q9), (3, .ref ao), (4, .int (nI 2))]) [4, 3, 2, 1, 0] rfl ?_
  have e9 : (kW cI cII cL ad K F [] (kS0 K F) ++ [oC cJ ao (fun _ => 0)]) ++ mW cI am [] (mS0 K F) = lV cI cII cL cJ ad am ao K F (kS0 K F) (fun _ => 0) (mS0 K F) := by
    unfold lV kW jw
    simp
  refine jr_perm (ws' := lV cI cII cL cJ ad am ao K F (kS0 K F) (fun _ => 0) (mS0 K F)) (fun H h => e9 ▸ va_P.swap h) (fun h => e9 ▸ va_D.swap h) ?_
  rw [← had, ← ham]
  refine jr_widen (k := 1000 + 2) (n := 10000 + 6 * 2) (by omega) (by omega) ?_
  exact law_loop (fun q h => h) hl0 hr hlocks hL C hZ hs9 hnc hX hbl hbA (by omega) (by omega) (H0 K F hK1 hK6 hF4 hF11) (H1 K F hK1 hK6 hF4 hF11) (H2 K F hK1 hK6 hF4 hF11) (H3 K F hK1 hK6 hF4 hF11) (H4 K F hK1 hK6 hF4 hF11) (H5 K F hK1 hK6 hF4 hF11) (H6 K F hK1 hK6 hF4 hF11) (H7 K F hK1 hK6 hF4 hF11) (H8 K F hK1 hK6 hF4 hF11) (H9 K F hK1 hK6 hF4 hF11) (H10 K F hK1 hK6 hF4 hF11) (H11 K F hK1 hK6 hF4 hF11) (H12 K F hK1 hK6 hF4 hF11) (H13 K F hK1 hK6 hF4 hF11) (H14 K F hK1 hK6 hF4 hF11) (H15 K F hK1 hK6 hF4 hF11) (H16 K F hK1 hK6 hF4 hF11) (H17 K F hK1 hK6 hF4 hF11) (H18 K F hK1 hK6 hF4 hF11) (H19 K F hK1 hK6 hF4 hF11) (H20 K F hK1 hK6 hF4 hF11) (H21 K F hK1 hK6 hF4 hF11) (H22 K F hK1 hK6 hF4 hF11) (H23 K F hK1 hK6 hF4 hF11) (L + 5) 2 _ _ _ (by omega) (by omega) (HI K F hK1 hK6 hF4 hF11)
