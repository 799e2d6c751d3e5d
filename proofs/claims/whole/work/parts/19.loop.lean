/-! THE CLAIM OUT OF ONE WALK OF THE LAW'S BODY. Your part is whole_start (and what it stands on); all else here is the same for every law, but numbers. -/
def R_law : String := "KindTablesLaw"
def lw_P (b : Addr) (xs : List Int32) (args : Array Value) (s : State) : Prop := args = #[.ref b] ∧ s.IntsAt b xs ∧ xs.length ≤ 2562 ∧ (Jvm.Cond.and given_1 narrow_1).before args s = true
def lw_Q (_ : Array Value) (s : State) (o : Outcome) (t : State) : Prop := o = .returned (some (.int 1)) ∧ Framed s o t [] 644430 7162781
def lw_Z (below : List Frame) (a : Array Value) (s : State) : State → Prop := fun t => ∃ o, t.status = .running ∧ Ended t below o ∧ lw_Q a s o t
/-- the law's own end, with 1 on the stack, nothing written that was there before, its room as the claim has it -/
theorem lw_ret {p : Program} {l : Launch} {e : Env} {s : State} {m : MethodId} {below : List Frame} {meth : Method} {c : Code} {b : Nat} (hx : p.tables.exec = Jvm.exec) (hb : c.code = code) (hr : meth.sig.returnType = ret) (hlocks : meth.locks = false) {pc : Nat} {H : Heap} {ls : Array Slot} (hdg : decode code pc = .ok (.ireturn, 1)) : W p l e room_1 s m #[Value.ref b] below meth c H [] 644430 7162781 (lw_Z below #[Value.ref b] s) (F0 m pc ls [.int 1]) := by
  intro T hT X
  obtain ⟨fs, hret, hrun, hended, hW, hframe⟩ := X.leave (v := some (.int 1)) (hlocks := hlocks) (fun h => by rw [hr] at h; cases h)
  have hmeth' : T.vm.method? m = some meth := X.method'
  refine ⟨T.setFrames fs, ?_, .returned (some (.int 1)), hrun, hended, rfl, ⟨_, rfl⟩, hW, hframe⟩
  jvm_step X.here [X.here.top, hx, hb, hdg, hmeth', hr, ret, narrow_b1]
  (try refine ⟨rfl, ?_⟩); (try refine ⟨rfl, ?_⟩)
  first | (intro acts; rw [hret _ acts rfl rfl rfl]) | rw [hret _ _ rfl rfl rfl]
  exact Steps.refl _
/-- what holds at the law's entry: the machine, the code, the tables' words (any of lw_tbl by 'hts w (by decide +kernel)'), the script of L ints xs at the cell b, what the Statement gives of the start (any of its parts by flat_of_before) -/
def lw_At (p : Program) (s : State) (m : MethodId) (meth : Method) (c : Code) (b L : Nat) (xs : Nat → Int32) : Prop :=
  p.tables.exec = Jvm.exec ∧ c.code = code ∧ meth.sig.returnType = ret ∧ c.maxLocals = 8 ∧ s.vm.findClass R_law = some m.cls ∧ (∀ w ∈ lw_tbl, w.before #[Value.ref b] s = true) ∧ va_X b L xs s s.heap ∧ b < s.heap.size ∧ meth.locks = false ∧ (Jvm.Cond.and given_1 narrow_1).before #[Value.ref b] s = true
/-- what the pure side owes of one case of the switch -/
def lOwe (wc : Nat → Nat → jS → (Nat → Int64) → jS → Int32 → Int32 → Int32 → Int32 → (jS → (Nat → Int64) → jS → Prop) → Prop) (K F : Nat) (Rl : jS → jS → Prop) : Prop := ∀ (st : jS) (f : Nat → Int64) (sm : jS) (a1 a2 a3 a4 : Int32), Rl st sm → wc K F st f sm a1 a2 a3 a4 (fun st' _ sm' => Rl st' sm')
theorem ll_in {i k L : Nat} (hk : k < 5) (h : i + 5 ≤ L) (hL : L ≤ 2562) : vp_in (nI i + nI k) L := by
  rw [nI_add]
  exact vp_in_nI (by omega) (by omega)
theorem ll_ge {i L : Nat} (hi : i ≤ 3000) (hL : L ≤ 2562) (h : ¬ Int32.ofNat L - 5 < nI i) : i + 5 ≤ L := by
  have e1 : (Int32.ofNat L - 5).toInt = (L : Int) - 5 := by
    rw [Jvm.Kit.i32_sub] <;> rw [show (Int32.ofNat L).toInt = (L : Int) from nI_toInt (by omega)] <;> rw [show (5 : Int32).toInt = 5 from by decide] <;> omega
  rw [Int32.lt_iff_toInt_lt, e1, nI_toInt (by omega)] at h
  omega
set_option maxRecDepth 100000 in
set_option maxHeartbeats 4000000 in
theorem law_loop {p : Program} {l : Launch} {e : Env} {s : State} {m : MethodId} {below : List Frame} {meth : Method} {c : Code} {D : va_G} {cI cII cL cJ : ClassId} {ad am sa : Nat → Nat} {ao K F b L : Nat} {xs : Nat → Int32} {A : Nat → Prop} (hAe : ∀ q, A q → s.heap.size ≤ q) (hl0 : l.stackTraces = false) (hr : meth.sig.returnType = ret) (hlocks : meth.locks = false) (hL : L ≤ 2562) (C : jr_C p s m #[Value.ref b] c code 8 "KindTablesLaw" lTs D kC (kT cI cII cL cJ) A) (hZ : jr_Z A s s.heap) (hs9 : ∀ q ∈ kS sa, vk_R q.1 q.2.1 q.2.2.1 q.2.2.2 s) (hnc : jNc s) (hX : va_X b L xs s s.heap) (hbl : b < s.heap.size) (hbA : ¬ A b) {cb sb : Nat} (hcb : cb ≤ 100000) (hsb : sb ≤ 1000000) {Rl : jS → jS → Prop} (H0 : lOwe wc_0 K F Rl) (H1 : lOwe wc_1 K F Rl) (H2 : lOwe wc_2 K F Rl) (H3 : lOwe wc_3 K F Rl) (H4 : lOwe wc_4 K F Rl) (H5 : lOwe wc_5 K F Rl) (H6 : lOwe wc_6 K F Rl) (H7 : lOwe wc_7 K F Rl) (H8 : lOwe wc_8 K F Rl) (H9 : lOwe wc_9 K F Rl) (H10 : lOwe wc_10 K F Rl) (H11 : lOwe wc_11 K F Rl) (H12 : lOwe wc_12 K F Rl) (H13 : lOwe wc_13 K F Rl) (H14 : lOwe wc_14 K F Rl) (H15 : lOwe wc_15 K F Rl) (H16 : lOwe wc_16 K F Rl) (H17 : lOwe wc_17 K F Rl) (H18 : lOwe wc_18 K F Rl) (H19 : lOwe wc_19 K F Rl) (H20 : lOwe wc_20 K F Rl) (H21 : lOwe wc_21 K F Rl) (H22 : lOwe wc_22 K F Rl) (H23 : lOwe wc_23 K F Rl) :
    ∀ (n i : Nat) (st : jS) (f : Nat → Int64) (sm : jS), i ≤ L + 4 → L + 5 ≤ i + n → Rl st sm → jr_J p l e room_1 s m #[Value.ref b] below meth c A D kC 8 (cb + i) (sb + 6 * i) (lw_Z below #[Value.ref b] s) (lV cI cII cL cJ ad am ao K F st f sm) 43 [(0, .ref b), (1, .ref (ad 0)), (2, .ref (am 0)), (3, .ref ao), (4, .int (nI i))] [] := by
  intro n
  induction n with
  | zero => intro i st f sm h1 h2; exact absurd h2 (by omega)
  | succ n ih =>
    intro i st f sm hi hn hR
    refine jr_iload (q := 4) C dLw_main_43 rfl ?_
    refine jr_aload_n (q := 0) C dLw_main_45 rfl rfl ?_
    refine jr_slen C hX hbl hbA dLw_main_46 ?_
    refine jr_iconst (v := 5) C dLw_main_47 (by decide) ?_
    refine jr_isub C dLw_main_48 ?_
    refine jr_icmp_gt (tgt := 1702) C dLw_main_49 (by decide) (fun z => ?_) (fun z => ?_)
    · intro H locs ls hP hD hS hl
      refine lv_iconst (v := 1) C.1 C.2.1 dLw_main_1702 (by decide) ?_
      refine va_forget (fun q hq => hAe _ (hS.2.2 q hq)) ?_
      refine W.widen (k := 644430) (n := 7162781) (by omega) (by omega) ?_
      exact lw_ret C.1 C.2.1 hr hlocks dLw_main_1703
    · have h5 : i + 5 ≤ L := ll_ge (by omega) hL z
      have h0 : vp_in (nI i) L := vp_in_nI (by omega) (by omega)
      have h1 : vp_in (nI i + 1) L := ll_in (k := 1) (by omega) h5 hL
      have h2 : vp_in (nI i + 2) L := ll_in (k := 2) (by omega) h5 hL
      have h3 : vp_in (nI i + 3) L := ll_in (k := 3) (by omega) h5 hL
      have h4 : vp_in (nI i + 4) L := ll_in (k := 4) (by omega) h5 hL
      have hnext : ∀ (k j : Nat), k ≤ 5 → j ≤ 30 → ∀ (st : jS) (f : Nat → Int64) (sm : jS), Rl st sm → jr_J p l e room_1 s m #[Value.ref b] below meth c A D kC 8 (cb + i + k) (sb + 6 * i + j) (lw_Z below #[Value.ref b] s) (lV cI cII cL cJ ad am ao K F st f sm) 1696 [(0, .ref b), (1, .ref (ad 0)), (2, .ref (am 0)), (3, .ref ao), (4, .int (nI i))] [] := by
        intro k j hk hj st f sm hR
        refine jr_iinc (q := 4) (v := nI (i + 5)) (lv' := [(4, .int (nI (i + 5))), (0, .ref b), (1, .ref (ad 0)), (2, .ref (am 0)), (3, .ref ao)]) C dLw_main_1696 rfl (nI_add i 5) (by decide) rfl ?_
        refine jr_goto (tgt := 43) C dLw_main_1699 (by decide) ?_
        refine jr_lv (lv' := [(0, .ref b), (1, .ref (ad 0)), (2, .ref (am 0)), (3, .ref ao), (4, .int (nI (i + 5)))]) [1, 2, 3, 4, 0] rfl ?_
        refine jr_widen (k := cb + (i + 5)) (n := sb + 6 * (i + 5)) (by omega) (by omega) ?_
        exact ih (i + 5) st f sm (by omega) (by omega) hR
      refine jr_aload_n (q := 0) C dLw_main_52 rfl rfl ?_
      refine jr_iload (q := 4) C dLw_main_53 rfl ?_
      refine jr_sld C hX hbl hbA h0 dLw_main_55 ?_
      refine jr_bipush (v := 31) C dLw_main_56 (by decide) ?_
      refine jr_iand C dLw_main_58 ?_
      obtain ⟨j, hj, ej⟩ := pk_andE (xs (Int32.toNatClampNeg (nI i))) (m := 31) 5 (by decide)
      rw [ej]
      by_cases hj24 : 24 ≤ j
      · refine jr_tblOut (tgt := 1696) C dLw_main_59 (Or.inr (by rw [nI_toInt (by omega)]; omega)) (by decide) ?_
        exact hnext 0 0 (by omega) (by omega) st f sm hR
      · match j, hj24 with
        | 0, _ =>
          refine jr_tblIn (tgt := 168) (off := 109) C dLw_main_59 (by decide) (by decide) rfl (by decide) ?_
          exact lc_0 hl0 C hZ hs9 hnc hX hbl hbA h1 h2 h3 h4 (by omega) (by omega) (H0 st f sm _ _ _ _ hR) (fun st f sm h => hnext 2 12 (by omega) (by omega) st f sm h)
        | 1, _ =>
          refine jr_tblIn (tgt := 224) (off := 165) C dLw_main_59 (by decide) (by decide) rfl (by decide) ?_
          exact lc_1 hl0 C hZ hs9 hnc hX hbl hbA h1 h2 h3 h4 (by omega) (by omega) (H1 st f sm _ _ _ _ hR) (fun st f sm h => hnext 3 18 (by omega) (by omega) st f sm h)
        | 2, _ =>
          refine jr_tblIn (tgt := 311) (off := 252) C dLw_main_59 (by decide) (by decide) rfl (by decide) ?_
          exact lc_2 hl0 C hZ hs9 hnc hX hbl hbA h1 h2 h3 h4 (by omega) (by omega) (H2 st f sm _ _ _ _ hR) (fun st f sm h => hnext 2 12 (by omega) (by omega) st f sm h)
        | 3, _ =>
          refine jr_tblIn (tgt := 379) (off := 320) C dLw_main_59 (by decide) (by decide) rfl (by decide) ?_
          exact lc_3 hl0 C hZ hs9 hnc hX hbl hbA h1 h2 h3 h4 (by omega) (by omega) (H3 st f sm _ _ _ _ hR) (fun st f sm h => hnext 2 12 (by omega) (by omega) st f sm h)
        | 4, _ =>
          refine jr_tblIn (tgt := 447) (off := 388) C dLw_main_59 (by decide) (by decide) rfl (by decide) ?_
          exact lc_4 hl0 C hZ hs9 hnc hX hbl hbA h1 h2 h3 h4 (by omega) (by omega) (H4 st f sm _ _ _ _ hR) (fun st f sm h => hnext 2 12 (by omega) (by omega) st f sm h)
        | 5, _ =>
          refine jr_tblIn (tgt := 515) (off := 456) C dLw_main_59 (by decide) (by decide) rfl (by decide) ?_
          exact lc_5 hl0 C hZ hs9 hnc hX hbl hbA h1 h2 h3 h4 (by omega) (by omega) (H5 st f sm _ _ _ _ hR) (fun st f sm h => hnext 2 12 (by omega) (by omega) st f sm h)
        | 6, _ =>
          refine jr_tblIn (tgt := 583) (off := 524) C dLw_main_59 (by decide) (by decide) rfl (by decide) ?_
          exact lc_6 hl0 C hZ hs9 hnc hX hbl hbA h1 h2 h3 h4 (by omega) (by omega) (H6 st f sm _ _ _ _ hR) (fun st f sm h => hnext 1 6 (by omega) (by omega) st f sm h)
        | 7, _ =>
          refine jr_tblIn (tgt := 639) (off := 580) C dLw_main_59 (by decide) (by decide) rfl (by decide) ?_
          exact lc_7 hl0 C hZ hs9 hnc hX hbl hbA h1 h2 h3 h4 (by omega) (by omega) (H7 st f sm _ _ _ _ hR) (fun st f sm h => hnext 1 6 (by omega) (by omega) st f sm h)
        | 8, _ =>
          refine jr_tblIn (tgt := 695) (off := 636) C dLw_main_59 (by decide) (by decide) rfl (by decide) ?_
          exact lc_8 hl0 C hZ hs9 hnc hX hbl hbA h1 h2 h3 h4 (by omega) (by omega) (H8 st f sm _ _ _ _ hR) (fun st f sm h => hnext 1 6 (by omega) (by omega) st f sm h)
        | 9, _ =>
          refine jr_tblIn (tgt := 751) (off := 692) C dLw_main_59 (by decide) (by decide) rfl (by decide) ?_
          exact lc_9 hl0 C hZ hs9 hnc hX hbl hbA h1 h2 h3 h4 (by omega) (by omega) (H9 st f sm _ _ _ _ hR) (fun st f sm h => hnext 3 18 (by omega) (by omega) st f sm h)
        | 10, _ =>
          refine jr_tblIn (tgt := 831) (off := 772) C dLw_main_59 (by decide) (by decide) rfl (by decide) ?_
          exact lc_10 hl0 C hZ hs9 hnc hX hbl hbA h1 h2 h3 h4 (by omega) (by omega) (H10 st f sm _ _ _ _ hR) (fun st f sm h => hnext 1 6 (by omega) (by omega) st f sm h)
        | 11, _ =>
          refine jr_tblIn (tgt := 887) (off := 828) C dLw_main_59 (by decide) (by decide) rfl (by decide) ?_
          exact lc_11 hl0 C hZ hs9 hnc hX hbl hbA h1 h2 h3 h4 (by omega) (by omega) (H11 st f sm _ _ _ _ hR) (fun st f sm h => hnext 1 6 (by omega) (by omega) st f sm h)
        | 12, _ =>
          refine jr_tblIn (tgt := 943) (off := 884) C dLw_main_59 (by decide) (by decide) rfl (by decide) ?_
          exact lc_12 hl0 C hZ hs9 hnc hX hbl hbA h1 h2 h3 h4 (by omega) (by omega) (H12 st f sm _ _ _ _ hR) (fun st f sm h => hnext 0 0 (by omega) (by omega) st f sm h)
        | 13, _ =>
          refine jr_tblIn (tgt := 956) (off := 897) C dLw_main_59 (by decide) (by decide) rfl (by decide) ?_
          exact lc_13 hl0 C hZ hs9 hnc hX hbl hbA h1 h2 h3 h4 (by omega) (by omega) (H13 st f sm _ _ _ _ hR) (fun st f sm h => hnext 2 12 (by omega) (by omega) st f sm h)
        | 14, _ =>
          refine jr_tblIn (tgt := 1024) (off := 965) C dLw_main_59 (by decide) (by decide) rfl (by decide) ?_
          exact lc_14 hl0 C hZ hs9 hnc hX hbl hbA h1 h2 h3 h4 (by omega) (by omega) (H14 st f sm _ _ _ _ hR) (fun st f sm h => hnext 1 6 (by omega) (by omega) st f sm h)
        | 15, _ =>
          refine jr_tblIn (tgt := 1080) (off := 1021) C dLw_main_59 (by decide) (by decide) rfl (by decide) ?_
          exact lc_15 hl0 C hZ hs9 hnc hX hbl hbA h1 h2 h3 h4 (by omega) (by omega) (H15 st f sm _ _ _ _ hR) (fun st f sm h => hnext 2 12 (by omega) (by omega) st f sm h)
        | 16, _ =>
          refine jr_tblIn (tgt := 1148) (off := 1089) C dLw_main_59 (by decide) (by decide) rfl (by decide) ?_
          exact lc_16 hl0 C hZ hs9 hnc hX hbl hbA h1 h2 h3 h4 (by omega) (by omega) (H16 st f sm _ _ _ _ hR) (fun st f sm h => hnext 2 12 (by omega) (by omega) st f sm h)
        | 17, _ =>
          refine jr_tblIn (tgt := 1216) (off := 1157) C dLw_main_59 (by decide) (by decide) rfl (by decide) ?_
          exact lc_17 hl0 C hZ hs9 hnc hX hbl hbA h1 h2 h3 h4 (by omega) (by omega) (H17 st f sm _ _ _ _ hR) (fun st f sm h => hnext 3 18 (by omega) (by omega) st f sm h)
        | 18, _ =>
          refine jr_tblIn (tgt := 1284) (off := 1225) C dLw_main_59 (by decide) (by decide) rfl (by decide) ?_
          exact lc_18 hl0 C hZ hs9 hnc hX hbl hbA h1 h2 h3 h4 (by omega) (by omega) (H18 st f sm _ _ _ _ hR) (fun st f sm h => hnext 3 18 (by omega) (by omega) st f sm h)
        | 19, _ =>
          refine jr_tblIn (tgt := 1364) (off := 1305) C dLw_main_59 (by decide) (by decide) rfl (by decide) ?_
          exact lc_19 hl0 C hZ hs9 hnc hX hbl hbA h1 h2 h3 h4 (by omega) (by omega) (H19 st f sm _ _ _ _ hR) (fun st f sm h => hnext 4 24 (by omega) (by omega) st f sm h)
        | 20, _ =>
          refine jr_tblIn (tgt := 1455) (off := 1396) C dLw_main_59 (by decide) (by decide) rfl (by decide) ?_
          exact lc_20 hl0 C hZ hs9 hnc hX hbl hbA h1 h2 h3 h4 (by omega) (by omega) (H20 st f sm _ _ _ _ hR) (fun st f sm h => hnext 5 30 (by omega) (by omega) st f sm h)
        | 21, _ =>
          refine jr_tblIn (tgt := 1535) (off := 1476) C dLw_main_59 (by decide) (by decide) rfl (by decide) ?_
          exact lc_21 hl0 C hZ hs9 hnc hX hbl hbA h1 h2 h3 h4 (by omega) (by omega) (H21 st f sm _ _ _ _ hR) (fun st f sm h => hnext 1 6 (by omega) (by omega) st f sm h)
        | 22, _ =>
          refine jr_tblIn (tgt := 1603) (off := 1544) C dLw_main_59 (by decide) (by decide) rfl (by decide) ?_
          exact lc_22 hl0 C hZ hs9 hnc hX hbl hbA h1 h2 h3 h4 (by omega) (by omega) (H22 st f sm _ _ _ _ hR) (fun st f sm h => hnext 1 6 (by omega) (by omega) st f sm h)
        | 23, _ =>
          refine jr_tblIn (tgt := 1671) (off := 1612) C dLw_main_59 (by decide) (by decide) rfl (by decide) ?_
          exact lc_23 hl0 C hZ hs9 hnc hX hbl hbA h1 h2 h3 h4 (by omega) (by omega) (H23 st f sm _ _ _ _ hR) (fun st f sm h => hnext 0 0 (by omega) (by omega) st f sm h)
        | j + 24, hq => exact absurd hq (by omega)
