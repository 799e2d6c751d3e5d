section
-- ===== PART A: goes FIRST, ahead of the names: the tables' words, and 'selects' of the private methods out of them =====
/-- a private method of a class that the tables say can be made, by its rows of tables_1 -/
def lw_okq (q : MethodName × Nat) : Prop := (q.1.cls ≠ "java/lang/invoke/MethodHandle" ∧ q.1.cls ≠ "java/lang/invoke/VarHandle") ∧ Cond.instantiable q.1.cls q.2 ∈ tables_1 ∧ Cond.privateMethod q.1 ∈ tables_1 ∧ Cond.instanceMethod q.1 ∈ tables_1
theorem lw_p0 : lw_okq (⟨"KindTables$Teller", "toldBy", "(III)I"⟩, 6) := ⟨⟨by decide +kernel, by decide +kernel⟩, List.mem_of_getElem? (i := 64) (by decide +kernel), List.mem_of_getElem? (i := 164) (by decide +kernel), List.mem_of_getElem? (i := 165) (by decide +kernel)⟩
theorem lw_p1 : lw_okq (⟨"KindTables$Teller", "takeVotes", "(III)V"⟩, 6) := ⟨⟨by decide +kernel, by decide +kernel⟩, List.mem_of_getElem? (i := 64) (by decide +kernel), List.mem_of_getElem? (i := 168) (by decide +kernel), List.mem_of_getElem? (i := 169) (by decide +kernel)⟩
theorem lw_p2 : lw_okq (⟨"KindTables", "needKindOrNone", "(I)V"⟩, 6) := ⟨⟨by decide +kernel, by decide +kernel⟩, List.mem_of_getElem? (i := 15) (by decide +kernel), List.mem_of_getElem? (i := 200) (by decide +kernel), List.mem_of_getElem? (i := 201) (by decide +kernel)⟩
theorem lw_p3 : lw_okq (⟨"KindTables", "needKind", "(I)V"⟩, 6) := ⟨⟨by decide +kernel, by decide +kernel⟩, List.mem_of_getElem? (i := 15) (by decide +kernel), List.mem_of_getElem? (i := 204) (by decide +kernel), List.mem_of_getElem? (i := 205) (by decide +kernel)⟩
theorem lw_p4 : lw_okq (⟨"java/lang/Throwable", "fillInStackTrace", "(I)Ljava/lang/Throwable;"⟩, 6) := ⟨⟨by decide +kernel, by decide +kernel⟩, List.mem_of_getElem? (i := 246) (by decide +kernel), List.mem_of_getElem? (i := 244) (by decide +kernel), List.mem_of_getElem? (i := 245) (by decide +kernel)⟩
theorem lw_p5 : lw_okq (⟨"KindTables", "needExample", "(I)V"⟩, 6) := ⟨⟨by decide +kernel, by decide +kernel⟩, List.mem_of_getElem? (i := 15) (by decide +kernel), List.mem_of_getElem? (i := 304) (by decide +kernel), List.mem_of_getElem? (i := 305) (by decide +kernel)⟩
theorem lw_p6 : lw_okq (⟨"KindTables", "needFeature", "(I)V"⟩, 6) := ⟨⟨by decide +kernel, by decide +kernel⟩, List.mem_of_getElem? (i := 15) (by decide +kernel), List.mem_of_getElem? (i := 309) (by decide +kernel), List.mem_of_getElem? (i := 310) (by decide +kernel)⟩
theorem lw_p7 : lw_okq (⟨"KindTables$Teller", "placeOf", "(I)I"⟩, 6) := ⟨⟨by decide +kernel, by decide +kernel⟩, List.mem_of_getElem? (i := 64) (by decide +kernel), List.mem_of_getElem? (i := 392) (by decide +kernel), List.mem_of_getElem? (i := 393) (by decide +kernel)⟩
theorem lw_p8 : lw_okq (⟨"KindTables$Teller", "countBefore", "(I)I"⟩, 6) := ⟨⟨by decide +kernel, by decide +kernel⟩, List.mem_of_getElem? (i := 64) (by decide +kernel), List.mem_of_getElem? (i := 440) (by decide +kernel), List.mem_of_getElem? (i := 441) (by decide +kernel)⟩
theorem lw_p9 : lw_okq (⟨"KindTables$Examples", "joinGroups", "(II)V"⟩, 6) := ⟨⟨by decide +kernel, by decide +kernel⟩, List.mem_of_getElem? (i := 29) (by decide +kernel), List.mem_of_getElem? (i := 463) (by decide +kernel), List.mem_of_getElem? (i := 464) (by decide +kernel)⟩
theorem lw_p10 : lw_okq (⟨"KindTables$Examples", "isCandidate", "(II)Z"⟩, 6) := ⟨⟨by decide +kernel, by decide +kernel⟩, List.mem_of_getElem? (i := 29) (by decide +kernel), List.mem_of_getElem? (i := 479) (by decide +kernel), List.mem_of_getElem? (i := 480) (by decide +kernel)⟩
theorem lw_p11 : lw_okq (⟨"KindTables$Examples", "countNearer", "(II)I"⟩, 6) := ⟨⟨by decide +kernel, by decide +kernel⟩, List.mem_of_getElem? (i := 29) (by decide +kernel), List.mem_of_getElem? (i := 483) (by decide +kernel), List.mem_of_getElem? (i := 484) (by decide +kernel)⟩
theorem lw_p12 : lw_okq (⟨"KindTables", "needHaul", "(I)V"⟩, 6) := ⟨⟨by decide +kernel, by decide +kernel⟩, List.mem_of_getElem? (i := 15) (by decide +kernel), List.mem_of_getElem? (i := 524) (by decide +kernel), List.mem_of_getElem? (i := 525) (by decide +kernel)⟩
theorem lw_p13 : lw_okq (⟨"KindTables$Hauls", "nearestFilled", "(III)I"⟩, 5) := ⟨⟨by decide +kernel, by decide +kernel⟩, List.mem_of_getElem? (i := 90) (by decide +kernel), List.mem_of_getElem? (i := 540) (by decide +kernel), List.mem_of_getElem? (i := 541) (by decide +kernel)⟩
theorem lw_p14 : lw_okq (⟨"KindTables$Hauls", "allGrams", "(I)I"⟩, 5) := ⟨⟨by decide +kernel, by decide +kernel⟩, List.mem_of_getElem? (i := 90) (by decide +kernel), List.mem_of_getElem? (i := 544) (by decide +kernel), List.mem_of_getElem? (i := 545) (by decide +kernel)⟩
theorem lw_p15 : lw_okq (⟨"KindTables$Hauls", "squareTo", "(III)I"⟩, 5) := ⟨⟨by decide +kernel, by decide +kernel⟩, List.mem_of_getElem? (i := 90) (by decide +kernel), List.mem_of_getElem? (i := 548) (by decide +kernel), List.mem_of_getElem? (i := 549) (by decide +kernel)⟩
def lw_privs_1 : List (MethodName × Nat) := [(⟨"KindTables$Teller", "toldBy", "(III)I"⟩, 6), (⟨"KindTables$Teller", "takeVotes", "(III)V"⟩, 6), (⟨"KindTables", "needKindOrNone", "(I)V"⟩, 6), (⟨"KindTables", "needKind", "(I)V"⟩, 6), (⟨"java/lang/Throwable", "fillInStackTrace", "(I)Ljava/lang/Throwable;"⟩, 6), (⟨"KindTables", "needExample", "(I)V"⟩, 6), (⟨"KindTables", "needFeature", "(I)V"⟩, 6), (⟨"KindTables$Teller", "placeOf", "(I)I"⟩, 6), (⟨"KindTables$Teller", "countBefore", "(I)I"⟩, 6), (⟨"KindTables$Examples", "joinGroups", "(II)V"⟩, 6), (⟨"KindTables$Examples", "isCandidate", "(II)Z"⟩, 6), (⟨"KindTables$Examples", "countNearer", "(II)I"⟩, 6), (⟨"KindTables", "needHaul", "(I)V"⟩, 6), (⟨"KindTables$Hauls", "nearestFilled", "(III)I"⟩, 5), (⟨"KindTables$Hauls", "allGrams", "(I)I"⟩, 5), (⟨"KindTables$Hauls", "squareTo", "(III)I"⟩, 5)]
theorem lw_r1 : ∀ q ∈ lw_privs_1, lw_okq q := List.forall_mem_cons.mpr ⟨lw_p0, List.forall_mem_cons.mpr ⟨lw_p1, List.forall_mem_cons.mpr ⟨lw_p2, List.forall_mem_cons.mpr ⟨lw_p3, List.forall_mem_cons.mpr ⟨lw_p4, List.forall_mem_cons.mpr ⟨lw_p5, List.forall_mem_cons.mpr ⟨lw_p6, List.forall_mem_cons.mpr ⟨lw_p7, List.forall_mem_cons.mpr ⟨lw_p8, List.forall_mem_cons.mpr ⟨lw_p9, List.forall_mem_cons.mpr ⟨lw_p10, List.forall_mem_cons.mpr ⟨lw_p11, List.forall_mem_cons.mpr ⟨lw_p12, List.forall_mem_cons.mpr ⟨lw_p13, List.forall_mem_cons.mpr ⟨lw_p14, List.forall_mem_cons.mpr ⟨lw_p15, fun _ h => absurd h List.not_mem_nil⟩⟩⟩⟩⟩⟩⟩⟩⟩⟩⟩⟩⟩⟩⟩⟩
theorem lw_p16 : lw_okq (⟨"KindTables$Law", "strengthBefore", "(II)I"⟩, 3) := ⟨⟨by decide +kernel, by decide +kernel⟩, List.mem_of_getElem? (i := 116) (by decide +kernel), List.mem_of_getElem? (i := 582) (by decide +kernel), List.mem_of_getElem? (i := 583) (by decide +kernel)⟩
theorem lw_p17 : lw_okq (⟨"KindTables$Law", "leastLengthBefore", "(II)I"⟩, 3) := ⟨⟨by decide +kernel, by decide +kernel⟩, List.mem_of_getElem? (i := 116) (by decide +kernel), List.mem_of_getElem? (i := 600) (by decide +kernel), List.mem_of_getElem? (i := 601) (by decide +kernel)⟩
theorem lw_p18 : lw_okq (⟨"KindTablesModel", "isKind", "(I)Z"⟩, 17) := ⟨⟨by decide +kernel, by decide +kernel⟩, List.mem_of_getElem? (i := 604) (by decide +kernel), List.mem_of_getElem? (i := 670) (by decide +kernel), List.mem_of_getElem? (i := 671) (by decide +kernel)⟩
theorem lw_p19 : lw_okq (⟨"KindTablesModel", "isExample", "(I)Z"⟩, 17) := ⟨⟨by decide +kernel, by decide +kernel⟩, List.mem_of_getElem? (i := 604) (by decide +kernel), List.mem_of_getElem? (i := 681) (by decide +kernel), List.mem_of_getElem? (i := 682) (by decide +kernel)⟩
theorem lw_p20 : lw_okq (⟨"KindTablesModel", "isFeature", "(I)Z"⟩, 17) := ⟨⟨by decide +kernel, by decide +kernel⟩, List.mem_of_getElem? (i := 604) (by decide +kernel), List.mem_of_getElem? (i := 685) (by decide +kernel), List.mem_of_getElem? (i := 686) (by decide +kernel)⟩
theorem lw_p21 : lw_okq (⟨"KindTablesModel", "cellOf", "(II)I"⟩, 17) := ⟨⟨by decide +kernel, by decide +kernel⟩, List.mem_of_getElem? (i := 604) (by decide +kernel), List.mem_of_getElem? (i := 701) (by decide +kernel), List.mem_of_getElem? (i := 702) (by decide +kernel)⟩
theorem lw_p22 : lw_okq (⟨"KindTablesModel", "votesOf", "(IIII)I"⟩, 17) := ⟨⟨by decide +kernel, by decide +kernel⟩, List.mem_of_getElem? (i := 604) (by decide +kernel), List.mem_of_getElem? (i := 709) (by decide +kernel), List.mem_of_getElem? (i := 710) (by decide +kernel)⟩
theorem lw_p23 : lw_okq (⟨"KindTablesModel", "toldBy", "(III)I"⟩, 17) := ⟨⟨by decide +kernel, by decide +kernel⟩, List.mem_of_getElem? (i := 604) (by decide +kernel), List.mem_of_getElem? (i := 717) (by decide +kernel), List.mem_of_getElem? (i := 718) (by decide +kernel)⟩
theorem lw_p24 : lw_okq (⟨"KindTablesModel", "rightOf", "(I)I"⟩, 17) := ⟨⟨by decide +kernel, by decide +kernel⟩, List.mem_of_getElem? (i := 604) (by decide +kernel), List.mem_of_getElem? (i := 743) (by decide +kernel), List.mem_of_getElem? (i := 744) (by decide +kernel)⟩
theorem lw_p25 : lw_okq (⟨"KindTablesModel", "alike", "(III)Z"⟩, 17) := ⟨⟨by decide +kernel, by decide +kernel⟩, List.mem_of_getElem? (i := 604) (by decide +kernel), List.mem_of_getElem? (i := 763) (by decide +kernel), List.mem_of_getElem? (i := 764) (by decide +kernel)⟩
theorem lw_p26 : lw_okq (⟨"KindTablesModel", "apart", "(II)I"⟩, 17) := ⟨⟨by decide +kernel, by decide +kernel⟩, List.mem_of_getElem? (i := 604) (by decide +kernel), List.mem_of_getElem? (i := 771) (by decide +kernel), List.mem_of_getElem? (i := 772) (by decide +kernel)⟩
theorem lw_p27 : lw_okq (⟨"KindTablesModel", "isNear", "(II)Z"⟩, 17) := ⟨⟨by decide +kernel, by decide +kernel⟩, List.mem_of_getElem? (i := 604) (by decide +kernel), List.mem_of_getElem? (i := 775) (by decide +kernel), List.mem_of_getElem? (i := 776) (by decide +kernel)⟩
theorem lw_p28 : lw_okq (⟨"KindTablesModel", "nearHaul", "(III)I"⟩, 17) := ⟨⟨by decide +kernel, by decide +kernel⟩, List.mem_of_getElem? (i := 604) (by decide +kernel), List.mem_of_getElem? (i := 795) (by decide +kernel), List.mem_of_getElem? (i := 796) (by decide +kernel)⟩
theorem lw_p29 : lw_okq (⟨"KindTablesModel", "all", "(I)J"⟩, 17) := ⟨⟨by decide +kernel, by decide +kernel⟩, List.mem_of_getElem? (i := 604) (by decide +kernel), List.mem_of_getElem? (i := 799) (by decide +kernel), List.mem_of_getElem? (i := 800) (by decide +kernel)⟩
theorem lw_p30 : lw_okq (⟨"KindTablesModel", "square", "(III)J"⟩, 17) := ⟨⟨by decide +kernel, by decide +kernel⟩, List.mem_of_getElem? (i := 604) (by decide +kernel), List.mem_of_getElem? (i := 803) (by decide +kernel), List.mem_of_getElem? (i := 804) (by decide +kernel)⟩
theorem lw_p31 : lw_okq (⟨"KindTablesModel", "strengthAt", "(II)I"⟩, 17) := ⟨⟨by decide +kernel, by decide +kernel⟩, List.mem_of_getElem? (i := 604) (by decide +kernel), List.mem_of_getElem? (i := 815) (by decide +kernel), List.mem_of_getElem? (i := 816) (by decide +kernel)⟩
def lw_privs_2 : List (MethodName × Nat) := [(⟨"KindTables$Law", "strengthBefore", "(II)I"⟩, 3), (⟨"KindTables$Law", "leastLengthBefore", "(II)I"⟩, 3), (⟨"KindTablesModel", "isKind", "(I)Z"⟩, 17), (⟨"KindTablesModel", "isExample", "(I)Z"⟩, 17), (⟨"KindTablesModel", "isFeature", "(I)Z"⟩, 17), (⟨"KindTablesModel", "cellOf", "(II)I"⟩, 17), (⟨"KindTablesModel", "votesOf", "(IIII)I"⟩, 17), (⟨"KindTablesModel", "toldBy", "(III)I"⟩, 17), (⟨"KindTablesModel", "rightOf", "(I)I"⟩, 17), (⟨"KindTablesModel", "alike", "(III)Z"⟩, 17), (⟨"KindTablesModel", "apart", "(II)I"⟩, 17), (⟨"KindTablesModel", "isNear", "(II)Z"⟩, 17), (⟨"KindTablesModel", "nearHaul", "(III)I"⟩, 17), (⟨"KindTablesModel", "all", "(I)J"⟩, 17), (⟨"KindTablesModel", "square", "(III)J"⟩, 17), (⟨"KindTablesModel", "strengthAt", "(II)I"⟩, 17)]
theorem lw_r2 : ∀ q ∈ lw_privs_2, lw_okq q := List.forall_mem_cons.mpr ⟨lw_p16, List.forall_mem_cons.mpr ⟨lw_p17, List.forall_mem_cons.mpr ⟨lw_p18, List.forall_mem_cons.mpr ⟨lw_p19, List.forall_mem_cons.mpr ⟨lw_p20, List.forall_mem_cons.mpr ⟨lw_p21, List.forall_mem_cons.mpr ⟨lw_p22, List.forall_mem_cons.mpr ⟨lw_p23, List.forall_mem_cons.mpr ⟨lw_p24, List.forall_mem_cons.mpr ⟨lw_p25, List.forall_mem_cons.mpr ⟨lw_p26, List.forall_mem_cons.mpr ⟨lw_p27, List.forall_mem_cons.mpr ⟨lw_p28, List.forall_mem_cons.mpr ⟨lw_p29, List.forall_mem_cons.mpr ⟨lw_p30, List.forall_mem_cons.mpr ⟨lw_p31, fun _ h => absurd h List.not_mem_nil⟩⟩⟩⟩⟩⟩⟩⟩⟩⟩⟩⟩⟩⟩⟩⟩
def lw_privs : List (MethodName × Nat) := lw_privs_1 ++ (lw_privs_2)
def lw_tbl : List Cond := k2_sels lw_privs ++ tables_1
theorem lw_privs_ok : ∀ q ∈ lw_privs, lw_okq q := by
  show ∀ q ∈ lw_privs_1 ++ (lw_privs_2), lw_okq q
  exact List.forall_mem_append.mpr ⟨lw_r1, lw_r2⟩
/-- the array of the arrays of t can be made (the block below asks for this word) -/
def va_AOA (t : FieldType) (U : State) : Prop := (Cond.arrayOver (.array t)).before #[] U = true
theorem va_AOA.of {t : FieldType} {A : Array Value} {U : State} (h : (Cond.arrayOver (.array t)).before A U = true) : va_AOA t U := h
theorem va_AOA.use {t : FieldType} {A : Array Value} {U : State} (h : va_AOA t U) : (Cond.arrayOver (.array t)).before A U = true := h
/-! ===== BEGIN words of one list among another's, by their places ===== -/
theorem goodIn_r {big : List Cond} (ws : List Cond) (ps : List Nat) (hp : ws = ps.filterMap (fun i => big[i]?)) (h : ws.all goodWord = true) : GoodIn big ws := by
  intro w hw
  have h1 := List.all_eq_true.mp h w hw
  rw [hp] at hw
  obtain ⟨i, -, hi⟩ := List.mem_filterMap.mp hw
  have hm : w ∈ big := by first | exact List.mem_of_getElem? hi | exact List.getElem?_mem hi
  exact ⟨hm, good_of_word h1⟩
theorem goodIn_app {big a b : List Cond} (ha : GoodIn big a) (hb : GoodIn big b) : GoodIn big (a ++ b) := fun w h => (List.mem_append.mp h).elim (ha w) (hb w)
theorem goodIn_ca {big a b : List Cond} {c : Cond} (ha : GoodIn big (c :: a)) (hb : GoodIn big b) : GoodIn big (c :: (a ++ b)) := fun w h => (List.mem_cons.mp h).elim (fun e => ha w (List.mem_cons.mpr (Or.inl e))) (fun h => (List.mem_append.mp h).elim (fun h => ha w (List.mem_cons.mpr (Or.inr h))) (hb w))
theorem goodIn_sub {big ws : List Cond} (hm : ∀ w ∈ ws, w ∈ big) (h : ws.all goodWord = true) : GoodIn big ws := fun w hw => ⟨hm w hw, good_of_word (List.all_eq_true.mp h w hw)⟩
/-! ===== END ===== -/

/-! ===== BEGIN new T[n][m]: the outer array a place, the inner ones among the pooled ===== -/
/-- f, but v at every address of l -/
def vr_up {α : Type} (f : Nat → α) (l : List Nat) (v : α) : Nat → α := fun a => if a ∈ l then v else f a
theorem vr_up_in {α : Type} {f : Nat → α} {l : List Nat} {v : α} {a : Nat} (h : a ∈ l) : vr_up f l v a = v := if_pos h
theorem vr_up_ne {α : Type} {f : Nat → α} {l : List Nat} {v : α} {a : Nat} (h : a ∉ l) : vr_up f l v a = f a := if_neg h
theorem vr_rows {L l : List Nat} {f : Nat → va_E} {e : va_E} (h : ∀ a, a ∈ l → a ∉ L) : va_pl L f ++ l.map (fun a => (a, e)) = va_pl (L ++ l) (vr_up f l e) := by
  unfold va_pl
  rw [List.map_append]
  congr 1
  · apply List.map_congr_left
    intro a ha
    rw [vr_up_ne (fun q => h a q ha)]
  · apply List.map_congr_left
    intro a ha
    rw [vr_up_in ha]
theorem vr_lay {X rows : va_W} {x : Nat × va_E} {pl : va_W} {D : va_G} {cl : List vw_C} {H : Heap} (hP : va_P D cl (((X ++ pl) ++ [x]) ++ rows) H) : va_P D cl ((X ++ [x]) ++ (pl ++ rows)) H := by
  rw [List.append_assoc (X ++ pl)] at hP
  have h := va_P.swap hP
  rw [← List.append_assoc X] at h
  have h2 := va_P.swap h
  rw [List.append_assoc (X ++ [x])] at h2
  exact h2
theorem vr_layD {X rows : va_W} {x : Nat × va_E} {pl : va_W} {A : Nat → Prop} (hD : va_D A (((X ++ pl) ++ [x]) ++ rows)) : va_D A ((X ++ [x]) ++ (pl ++ rows)) := by
  rw [List.append_assoc (X ++ pl)] at hD
  have h := va_D.swap hD
  rw [← List.append_assoc X] at h
  have h2 := va_D.swap h
  rw [List.append_assoc (X ++ [x])] at h2
  exact h2
theorem vr_outer (c : ClassId) (N h0 : Nat) : ∀ i : Nat, Jvm.Free.Multi.outerC c N h0 i = arrV c N (fun j => va_rf (if j < i then some (h0 + 1 + j) else none))
  | 0 => by
    show ({ cls := c, slots := Array.replicate N .null, vm := .none } : Cell) = _
    rw [arrV_new]
    refine congrArg (arrV c N) (funext fun j => ?_)
    simp [va_rf]
  | i + 1 => by
    show (Jvm.Free.Multi.outerC c N h0 i).setSlot i (.ref (h0 + 1 + i)) = _
    rw [vr_outer c N h0 i, arrV_store]
    refine congrArg (arrV c N) (funext fun j => ?_)
    by_cases e : j = i
    · subst e
      simp [updV, va_rf]
    · by_cases h : j < i
      · simp [updV, e, h, Nat.lt_succ_of_lt h]
      · simp [updV, e, h, show ¬ j < i + 1 by omega]
section VGM
variable {p : Program} {l : Launch} {e : Env} {R : Room} {s : State} {m : MethodId} {args : Array Value} {below : List Frame} {meth : Method} {c : Code} {H : Heap} {locs : List Loc} {cells slots : Nat} {Q : State → Prop}
variable {cc : ByteArray} {pc : Nat} {ls : Array Slot} {rest : List Value} {D : va_G} {cl : List vw_C} {A : Nat → Prop} {a : Nat} {tys : List (ClassId × FieldType)} {ws : va_W} {H0 : Heap}
theorem va_mna {X : va_W} {L : List Nat} {f : Nat → va_E} {cc : ByteArray} (hexec : p.tables.exec = Jvm.exec) (hb : c.code = cc) {own : String} {index : Nat} {ty : FieldType} {cy : ClassId} (hown : s.vm.findClass own = some m.cls) (hclink : (Cond.classLink own index ("[" ++ (FieldType.array ty).toString)).before args s = true) (hover : va_AOA ty s) (harr : (Cond.arrayClass ty).before args s = true) (hcy : s.vm.findClass (FieldType.array ty).toString = some cy)
    (hK : va_K D cl tys s) (hP : va_P D cl (X ++ va_pl L f) H) (hD : va_D A (X ++ va_pl L f)) (hS : va_S A H0 H locs) (hA : ∀ q, H0.size ≤ q → A q) {n k : Int32} {N' K' : Nat} {z : vp_A} (hn : ¬ n < 0) (hk : ¬ k < 0) (hN : n.toNatClampNeg = N') (hM : k.toNatClampNeg = K')
    (hb1 : N' * 4 ≤ 536870912) (hb2 : K' * componentBytes ty ≤ 536870912) (hb3 : K' ≤ 536870912) (hdf : fits ty (defaultValue ty) = true) (hdd : (defaultValue ty).isDefault = true) (hcells : cells + (1 + N') ≤ R.cells) (hslots : slots + (N' + N' * K') ≤ R.slots) (hz : ∀ c : ClassId, Jvm.Free.Multi.innerC c K' (defaultValue ty) = vp_cell c z) (hdg : decode cc pc = .ok (.multianewarray index 2, 4))
    (kk : ∀ (q : Nat) (r : Nat → Nat) (cA : ClassId) (H1 : Heap), (∀ i j : Nat, i < N' → j < N' → r i = r j → i = j) → (∀ i : Nat, i < N' → r i ∉ L) → va_K D cl (tys ++ [(cA, .array ty)]) s →
      va_P D cl ((X ++ [(q, .inl (cA, N', .inr (.inr (.inr (.inr (fun i => if i < N' then some (r i) else none))))))]) ++ va_pl (L ++ (List.range N').map r) (vr_up f ((List.range N').map r) (.inl (cy, z)))) H1 → va_D A ((X ++ [(q, .inl (cA, N', .inr (.inr (.inr (.inr (fun i => if i < N' then some (r i) else none))))))]) ++ va_pl (L ++ (List.range N').map r) (vr_up f ((List.range N').map r) (.inl (cy, z)))) → va_S A H0 H1 locs →
      W p l e R s m args below meth c H1 locs (cells + 1 + N') (slots + N' + N' * K') Q (F0 m (pc + 4) ls (.ref q :: rest))) : W p l e R s m args below meth c H locs cells slots Q (F0 m pc ls (.int k :: .int n :: rest)) := by
  subst hN
  subst hM
  intro T hT Xs
  obtain ⟨vm₁, cA, comp, -, fA, fC, hO, -, X', step⟩ := Xs.multianewarray2F hexec hown hclink (va_AOA.use hover) harr (g := F0 m pc ls (.int k :: .int n :: rest)) rfl (by rw [hb]; exact hdg) rfl hn hk hb1 hb2 hb3 hdf hdd hcells hslots
  have ec : some cy = some comp := hcy.symm.trans fC
  cases ec
  generalize hF : Jvm.Free.Multi.fill (T.setVm vm₁) cA cy n.toNatClampNeg k.toNatClampNeg (defaultValue ty) n.toNatClampNeg = F at X' step
  have hTh : (T.setVm vm₁).heap = H := hT
  obtain ⟨f1, f2, -, -⟩ := Jvm.Free.Multi.fill_facts (T.setVm vm₁) cA cy n.toNatClampNeg k.toNatClampNeg (defaultValue ty) n.toNatClampNeg
  rw [hF, hTh] at f1 f2
  have hold : ∀ x : Nat, x < H.size → F.heap[x]? = H[x]? := fun x hx => by
    have := Jvm.Free.Multi.fill_old (T.setVm vm₁) cA cy n.toNatClampNeg k.toNatClampNeg (defaultValue ty) (a := x) (by rw [hTh]; exact hx) n.toNatClampNeg
    rw [hF, hTh] at this
    exact this
  have hrow : ∀ j : Nat, j < n.toNatClampNeg → F.heap[H.size + 1 + j]? = some (vp_cell cy z) := fun j hj => by
    have := Jvm.Free.Multi.fill_inner (T.setVm vm₁) cA cy n.toNatClampNeg k.toNatClampNeg (defaultValue ty) n.toNatClampNeg j hj
    rw [hF, hTh, hz] at this
    exact this
  have hout : Jvm.Free.Multi.outerC cA n.toNatClampNeg H.size n.toNatClampNeg = vp_cell cA (n.toNatClampNeg, .inr (.inr (.inr (.inr (fun i => if i < n.toNatClampNeg then some (H.size + 1 + i) else none))))) := by
    rw [vp_cell_q]
    exact vr_outer cA n.toNatClampNeg H.size n.toNatClampNeg
  rw [hout] at f2
  have hlt : ∀ a, a ∈ L → a < H.size := fun a ha => by
    obtain ⟨k9, hk9⟩ := va_pl_get (X := X) (f := f) ha
    exact (hP k9 _ hk9).lt
  have hnl : ∀ i : Nat, i < n.toNatClampNeg → H.size + 1 + i ∉ L := fun i _ h => by
    have := hlt _ h
    omega
  have hnm : ∀ a, a ∈ (List.range n.toNatClampNeg).map (fun i => H.size + 1 + i) → a ∉ L := fun a ha h => by
    obtain ⟨i, -, rfl⟩ := List.mem_map.mp ha
    have := hlt _ h
    omega
  have hP0 : va_P D cl (X ++ va_pl L f) F.heap := hP.kept (fun k9 x hx => hold x.1 ((hP k9 x hx).lt))
  have hP1 : va_P D cl ((X ++ va_pl L f) ++ [(H.size, .inl (cA, n.toNatClampNeg, .inr (.inr (.inr (.inr (fun i => if i < n.toNatClampNeg then some (H.size + 1 + i) else none))))))]) F.heap := hP0.app (fun k9 x hx => by
    have h0 : k9 < 1 := (List.getElem?_eq_some_iff.mp hx).1
    rw [show k9 = 0 by omega] at hx
    cases hx
    exact f2)
  have hP2 : va_P D cl (((X ++ va_pl L f) ++ [(H.size, .inl (cA, n.toNatClampNeg, .inr (.inr (.inr (.inr (fun i => if i < n.toNatClampNeg then some (H.size + 1 + i) else none))))))]) ++ ((List.range n.toNatClampNeg).map (fun i => H.size + 1 + i)).map (fun a => (a, .inl (cy, z)))) F.heap := hP1.app (fun k9 x hx => by
    obtain ⟨a, ha, rfl⟩ := List.mem_map.mp (List.mem_of_getElem? hx)
    obtain ⟨i, hi, rfl⟩ := List.mem_map.mp ha
    exact hrow i (List.mem_range.mp hi))
  have hD2 : va_D A (((X ++ va_pl L f) ++ [(H.size, .inl (cA, n.toNatClampNeg, .inr (.inr (.inr (.inr (fun i => if i < n.toNatClampNeg then some (H.size + 1 + i) else none))))))]) ++ ((List.range n.toNatClampNeg).map (fun i => H.size + 1 + i)).map (fun a => (a, .inl (cy, z)))) := by
    have hD1 := hD.push (e := .inl (cA, n.toNatClampNeg, .inr (.inr (.inr (.inr (fun i => if i < n.toNatClampNeg then some (H.size + 1 + i) else none)))))) hP rfl (hA _ hS.1)
    generalize hW1 : (X ++ va_pl L f) ++ [(H.size, .inl (cA, n.toNatClampNeg, .inr (.inr (.inr (.inr (fun i => if i < n.toNatClampNeg then some (H.size + 1 + i) else none))))))] = W1 at hD1 hP1 ⊢
    have hle : ∀ (k9 : Nat) (x : Nat × va_E), W1[k9]? = some x → x.1 ≤ H.size := fun k9 x hx => by
      rw [← hW1] at hx
      by_cases hl : k9 < (X ++ va_pl L f).length
      · rw [List.getElem?_append_left hl] at hx
        exact Nat.le_of_lt ((hP k9 x hx).lt)
      · rw [List.getElem?_append_right (by omega)] at hx
        have h0 : k9 - (X ++ va_pl L f).length < 1 := (List.getElem?_eq_some_iff.mp hx).1
        rw [show k9 - (X ++ va_pl L f).length = 0 by omega] at hx
        cases hx
        exact Nat.le_refl _
    have hr : ∀ (k9 : Nat) (x : Nat × va_E), (((List.range n.toNatClampNeg).map (fun i => H.size + 1 + i)).map (fun a => ((a, .inl (cy, z)) : Nat × va_E)))[k9]? = some x → x.1 = H.size + 1 + k9 := fun k9 x hx => by
      rw [List.getElem?_map, List.getElem?_map] at hx
      by_cases h9 : k9 < n.toNatClampNeg
      · rw [List.getElem?_range h9] at hx
        cases hx
        rfl
      · have hn0 : (List.range n.toNatClampNeg)[k9]? = none := List.getElem?_eq_none (by rw [List.length_range]; omega)
        rw [hn0] at hx
        cases hx
    refine ⟨fun i j x y hi hj hxy => ?_, fun k9 x hx => ?_⟩
    · by_cases h1 : i < W1.length <;> by_cases h2 : j < W1.length
      · rw [List.getElem?_append_left h1] at hi
        rw [List.getElem?_append_left h2] at hj
        exact hD1.1 i j x y hi hj hxy
      · rw [List.getElem?_append_left h1] at hi
        rw [List.getElem?_append_right (by omega)] at hj
        have := hle _ _ hi
        have := hr _ _ hj
        omega
      · rw [List.getElem?_append_right (by omega)] at hi
        rw [List.getElem?_append_left h2] at hj
        have := hle _ _ hj
        have := hr _ _ hi
        omega
      · rw [List.getElem?_append_right (by omega)] at hi hj
        have := hr _ _ hi
        have := hr _ _ hj
        omega
    · by_cases h1 : k9 < W1.length
      · rw [List.getElem?_append_left h1] at hx
        exact hD1.2 k9 x hx
      · rw [List.getElem?_append_right (by omega)] at hx
        have := hr _ _ hx
        exact hA _ (by have := hS.1; omega)
  have hAr : ArrOfT s cA (.array ty) := fun N9 z9 => by
    obtain ⟨-, k9, hk9, cm9, hkk9⟩ := (hO 0 0 0).1
    exact ⟨(fun q hq => by cases hq), k9, hk9, cm9, hkk9⟩
  have hK2 : va_K D cl (tys ++ [(cA, .array ty)]) s := ⟨hK.1, fun k9 x hx => by
    by_cases hl : k9 < tys.length
    · rw [List.getElem?_append_left hl] at hx
      exact hK.2 k9 x hx
    · rw [List.getElem?_append_right (by omega)] at hx
      have h0 : k9 - tys.length < 1 := (List.getElem?_eq_some_iff.mp hx).1
      rw [show k9 - tys.length = 0 by omega] at hx
      cases hx
      exact ⟨hAr, fA⟩⟩
  obtain ⟨t, a1, b1⟩ := kk H.size (fun i => H.size + 1 + i) cA F.heap (fun i j _ _ h => by have h9 : H.size + 1 + i = H.size + 1 + j := h; omega) hnl hK2 (by rw [← vr_rows hnm]; exact vr_lay hP2) (by rw [← vr_rows hnm]; exact vr_layD hD2) ⟨by rw [f1]; have := hS.1; omega, fun x h1 h2 => (hold x (Nat.lt_of_lt_of_le h1 hS.1)).trans (hS.2.1 x h1 h2), hS.2.2⟩ F rfl X'
  refine ⟨t, step t ?_, b1⟩
  have e : T.heap.size = H.size := by rw [hT]
  rw [e]
  exact a1
end VGM
/-! ===== END ===== -/

/-! ===== BEGIN exceptions that leave a method, and their catching by the caller (launches without stack traces) ===== -/
section VXA
/-! The laws vx_back, vx_callV, vx_callS, vx_callSW, vx_throw0, vx_throwS follow proofs of the library, with one case more: JvmDerived/Free/Laws.lean (Back.of_free), Shelf42/LK1.lean (callV, callS), Shelf/KitTraced.lean (throwNew0V, throwNewS). -/
/-- where a method has thrown q: the class by its name, the cell, what was written, the world -/
def vx_T (XC : String → State → State → Prop) (st : State) (q : Addr) (t : State) (mc ms : Nat) (free : Addr → Prop) : Prop :=
  ∃ (E : String) (ce : Cell) (L : List Loc), XC E st t ∧ t.heap[q]? = some ce ∧ ce.vm = .none ∧ st.vm.findClass E = some ce.cls ∧ st.WarmedH t.vm ∧ st.sameButNew ({ t with vm := st.vm } : State) L mc ms ∧ ∀ z ∈ L, free z.base
def vx_Q (Qc : Array Value → State → Outcome → State → Prop) (XC : String → State → State → Prop) (mc ms : Nat) (free : Addr → Prop) : Array Value → State → Outcome → State → Prop := fun a st o t =>
  (Qc a st o t ∧ ∃ L, FrameEnd st o t L mc ms ∧ ∀ q ∈ L, free q.base) ∨ ∃ q, o = .threw q ∧ vx_T XC st q t mc ms free
/-- a callee that returns or throws -/
def vx_Met (l : Launch) (y : MethodName) (ws : List Cond) (rm : Room) (Pc : Array Value → State → Prop) (Qc : Array Value → State → Outcome → State → Prop) (XC : String → State → State → Prop) (mc ms : Nat) (free : Addr → Prop) : Prop :=
  MetFree l y (headSpec ws rm) Pc (fun _ _ _ _ _ => True) (vx_Q Qc XC mc ms free)
def vx_Post (XC : String → State → State → Prop) (mc ms : Nat) (free : Addr → Prop) : Pt → Array Value → Addr → Pt → Prop := fun A a q B =>
  ∃ (g : JFrame) (mk : MethodId) (t : State) (L : List Loc) (E : String) (ce : Cell), B.U.heap = t.heap ∧ B.U.vm = t.vm ∧ XC E (A.U.calling g mk a) t ∧ t.heap[q]? = some ce ∧ ce.vm = .none ∧ A.U.vm.findClass E = some ce.cls ∧ B.locs = A.locs ++ L ∧ (∀ z ∈ L, free z.base) ∧ B.cells = A.cells + mc ∧ B.slots = A.slots + ms
def vx_Back (l : Launch) (R : Room) (p : Program) (e : Env) (below : List Frame) (s : State) (sargs : Array Value) (y : MethodName) (len W9 : Nat)
    (Pre : Pt → Array Value → Prop) (Post : Pt → Array Value → Option Value → Pt → Prop) (PostX : Pt → Array Value → Addr → Pt → Prop) : Prop :=
  ∀ (m : MethodId) (meth : Method) (c : Code) (A : Pt) (g : JFrame) (ig : Instr) (mk : MethodId) (a : Array Value),
    Stand p l e R s m sargs below meth c A.U A.locs A.cells A.slots → g.method = m → g.locals.size = c.maxLocals → decode c.code g.pc = .ok (ig, len) →
    2 * g.monitorRoom + (g.stack.map fun v => v.category).sum ≤ W9 → A.U.methodNamed? y = some mk → Pre A a →
    (∃ (v : Option Value) (B : Pt), Stand p l e R s m sargs below meth c B.U B.locs B.cells B.slots ∧ Post A a v B ∧
      Steps p.tables e below (doInvoke e (A.U.setTop g) [] mk a).1 (B.U.setTop { g with pc := g.pc + len, stack := v.toList ++ g.stack })) ∨
    (∃ (q : Addr) (B : Pt), Stand p l e R s m sargs below meth c B.U B.locs B.cells B.slots ∧ PostX A a q B ∧
      Steps p.tables e below (doInvoke e (A.U.setTop g) [] mk a).1 ((B.U.setTop g).pushFrame (.throwing q)))
section Payer
variable {l : Launch} {R : Room} {p : Program} {e : Env} {below : List Frame} {s : State} {sargs : Array Value} {y : MethodName} {len W9 : Nat}
theorem vx_back {ws : List Cond} {rm : Room} {Pc : Array Value → State → Prop} {Qc : Array Value → State → Outcome → State → Prop} {XC : String → State → State → Prop} {mc ms : Nat} {free : Addr → Prop} {bytes : ByteArray} {maxL : Nat} {ret : Option FieldType}
    (hM : vx_Met l y ws rm Pc Qc XC mc ms free) (hblind : FrameBlind Pc) (hrc : rm.cells = mc) (hrs : rm.slots = ms)
    (hframes : rm.frames + 1 ≤ R.frames) (hlocals : W9 + (maxL + 11) + rm.locals ≤ R.locals)
    (hws : ∀ w ∈ ws, ∀ a' U, s.WarmedH U.vm → w.before a' U = true) (hcode : Cond.code y bytes maxL ret ∈ ws) (hinit : ∀ a' U, s.WarmedH U.vm → (Cond.initialized y.cls).before a' U = true) :
    vx_Back l R p e below s sargs y len W9 (PreOf R mc ms Pc) (PostOf Qc mc ms free) (vx_Post XC mc ms free) := by
  intro m meth c A g ig mk a X hg hsize hdg hW hn hp
  have h1 : (headSpec ws rm).pre.before a A.U = true := atoms_intro fun w hw => hws w hw _ _ X.warmed
  have h2 : (Cond.code y bytes maxL ret).before a A.U = true := hws _ hcode _ _ X.warmed
  have h3 : (Cond.initialized y.cls).before a A.U = true := hinit _ _ X.warmed
  have h4 : A.cells + (headSpec ws rm).room.cells ≤ R.cells := by rw [show (headSpec ws rm).room.cells = mc from hrc]; exact hp.1
  have h5 : A.slots + (headSpec ws rm).room.slots ≤ R.slots := by rw [show (headSpec ws rm).room.slots = ms from hrs]; exact hp.2.1
  have hPc : Pc a (A.U.calling g mk a) := hblind _ _ _ _ hp.2.2
  obtain ⟨U, Ls, c0, s0⟩ := A
  dsimp only [Pt.U, Pt.locs, Pt.cells, Pt.slots] at h1 h2 h3 h4 h5 X hn hPc ⊢
  obtain ⟨methY, cY, hmY, hcY, -, hlY, -, -, -, -⟩ := Cond.code_spec hn h2
  obtain ⟨kY, hkY, -⟩ := className_of_methodNamed hn
  have hinitY : kY.init = .initialized := Cond.initialized_spec (findClass_of_methodNamed hn) hkY h3
  have h : At U g.method c below := by rw [hg]; exact X.here
  have hlocals9 : W9 + (maxL + 11) + (headSpec ws rm).room.locals ≤ R.locals := hlocals
  have happ : (headSpec ws rm).appliesLoose y e.platform (U.calling g mk a) = true :=
    Spec.appliesLoose_calling (g := g) h hdg hn hkY hinitY
      (X.room_calling (g := g) (R' := (headSpec ws rm).room) hsize hmY hcY hframes (by rw [hlY]; omega) h4 h5) h1
  obtain ⟨mid, hmid⟩ := h.above
  have hfr : (U.setTop g).frames = (.java g :: mid) ++ below := by rw [State.frames_setTop' g h.top, hmid]; rfl
  obtain ⟨o, s₂, hsteps, -, hend, hq⟩ := Steps.callFree hM p X.admits X.cas X.clock (acts := []) hfr happ hPc trivial
  have hq' : vx_Q Qc XC mc ms free a (U.calling g mk a) o s₂ := hq
  rw [State.frames_setTop' g h.top] at hend
  obtain ⟨g₀, hg0⟩ := Option.isSome_iff_exists.mp h.top
  obtain ⟨r, hr⟩ := State.topJava?_eq_some.mp hg0
  have hr' : (({ U with heap := s₂.heap, slotsUsed := s₂.slotsUsed } : State).setVm s₂.vm).frames = .java g₀ :: r := hr
  rcases hq' with ⟨hqc, L, hfe, hL⟩ | ⟨q, rfl, E, ce, L, hx, hce, hcv, hcl, hW₂, hsm, hL⟩
  · obtain ⟨⟨v, rfl⟩, hW₂, e2, q2, q3, q4, q5, q6⟩ := id hfe
    have e3 : s₂ = ({ (U.calling g mk a).setFrames s₂.frames with heap := s₂.heap, slotsUsed := s₂.slotsUsed } : State).setVm s₂.vm := by
      have : s₂ = ({ s₂ with vm := (U.calling g mk a).vm } : State).setVm s₂.vm := rfl
      rw [e2] at this
      exact this
    obtain ⟨c₂, i₂, len₂, hc₂, hd₂, hf₂⟩ := hend
    have hW' : U.WarmedH s₂.vm := hW₂
    have hcc : c₂ = c := by
      have h1 : s₂.code? g.method = U.code? g.method := by
        rw [State.code?_eq, State.code?_eq, hW'.alike.method?]
      exact Option.some.inj (hc₂.symm.trans (h1.trans h.code))
    subst hcc
    have hlen : len₂ = len := by rw [hdg] at hd₂; cases hd₂; rfl
    subst hlen
    have hs₂ : s₂ = (({ U with heap := s₂.heap, slotsUsed := s₂.slotsUsed } : State).setVm s₂.vm).setTop { g with pc := g.pc + len₂, stack := v.toList ++ g.stack } := by
      refine e3.trans ?_
      rw [hf₂, State.calling_eq h.top, State.setFrames_setFrames, State.setTop_of_frames _ hr', hr]
      rfl
    have hsame : U.sameButNew ({ U with heap := s₂.heap, slotsUsed := s₂.slotsUsed } : State) L mc ms := by
      refine ⟨?_, q2, q3, q4, q5, q6⟩
      obtain ⟨t, ht, -⟩ := State.frames_cons hr
      show ({ U with heap := s₂.heap, slotsUsed := s₂.slotsUsed } : State) = { U.setFrames U.frames with heap := s₂.heap, slotsUsed := s₂.slotsUsed }
      rw [State.setFrames_self ht]
    subst hg
    refine Or.inl ⟨v, ⟨(({ U with heap := s₂.heap, slotsUsed := s₂.slotsUsed } : State).setVm s₂.vm), Ls ++ L, c0 + mc, s0 + ms⟩,
      ⟨X.admits, X.cas, X.clock, X.frames, X.room, X.hears, X.method, X.code, (X.here.setHeapUsed s₂.heap s₂.slotsUsed).setVm hW'.alike, X.tail, State.WarmedH.trans X.warmed hW', X.limits, X.bytes, X.same.trans (hsame.setVm s.vm)⟩,
      ⟨g, mk, s₂, L, rfl, rfl, hqc, rfl, hL, rfl, rfl⟩, ?_⟩
    show Steps p.tables e below _ ((({ U with heap := s₂.heap, slotsUsed := s₂.slotsUsed } : State).setVm s₂.vm).setTop { g with pc := g.pc + len₂, stack := v.toList ++ g.stack })
    rw [← hs₂]
    exact hsteps
  · obtain ⟨e2, q2, q3, q4, q5, q6⟩ := id hsm
    have e3 : s₂ = ({ (U.calling g mk a).setFrames s₂.frames with heap := s₂.heap, slotsUsed := s₂.slotsUsed } : State).setVm s₂.vm := by
      have : s₂ = ({ s₂ with vm := (U.calling g mk a).vm } : State).setVm s₂.vm := rfl
      rw [e2] at this
      exact this
    have hf₂ : s₂.frames = .throwing q :: .java g :: U.frames.tail := hend
    have hW' : U.WarmedH s₂.vm := hW₂
    have hs₂ : s₂ = ((({ U with heap := s₂.heap, slotsUsed := s₂.slotsUsed } : State).setVm s₂.vm).setTop g).pushFrame (.throwing q) := by
      refine e3.trans ?_
      rw [hf₂, State.calling_eq h.top, State.setFrames_setFrames, State.pushFrame, State.frames_setTop _ hr', State.setTop_of_frames _ hr', State.setFrames_setFrames, hr]
      rfl
    have hsame : U.sameButNew ({ U with heap := s₂.heap, slotsUsed := s₂.slotsUsed } : State) L mc ms := by
      refine ⟨?_, q2, q3, q4, q5, q6⟩
      obtain ⟨t, ht, -⟩ := State.frames_cons hr
      show ({ U with heap := s₂.heap, slotsUsed := s₂.slotsUsed } : State) = { U.setFrames U.frames with heap := s₂.heap, slotsUsed := s₂.slotsUsed }
      rw [State.setFrames_self ht]
    subst hg
    refine Or.inr ⟨q, ⟨(({ U with heap := s₂.heap, slotsUsed := s₂.slotsUsed } : State).setVm s₂.vm), Ls ++ L, c0 + mc, s0 + ms⟩,
      ⟨X.admits, X.cas, X.clock, X.frames, X.room, X.hears, X.method, X.code, (X.here.setHeapUsed s₂.heap s₂.slotsUsed).setVm hW'.alike, X.tail, State.WarmedH.trans X.warmed hW', X.limits, X.bytes, X.same.trans (hsame.setVm s.vm)⟩,
      ⟨g, mk, s₂, L, E, ce, rfl, rfl, hx, hce, hcv, hcl, rfl, hL, rfl, rfl⟩, ?_⟩
    show Steps p.tables e below _ (((({ U with heap := s₂.heap, slotsUsed := s₂.slotsUsed } : State).setVm s₂.vm).setTop g).pushFrame (.throwing q))
    rw [← hs₂]
    exact hsteps
end Payer
section Calls
variable {p : Program} {l : Launch} {e : Env} {R : Room} {s : State} {m : MethodId} {args : Array Value} {below : List Frame} {meth : Method} {c : Code} {T : State} {locs : List Loc} {cells slots : Nat}
theorem vx_callV (X : Stand p l e R s m args below meth c T locs cells slots) (hexec : p.tables.exec = Jvm.exec) {own C : String} {index : Nat} {y : MethodName} {bytes : ByteArray} {maxL : Nat} {ret : Option FieldType}
    (hown : s.vm.findClass own = some m.cls) (hlink : (Cond.methodLink own index y).before args s = true) (hinst : (Cond.instanceMethod y).before args s = true) (hsel : (Cond.selects C y y).before args s = true)
    (hcode : (Cond.code y bytes maxL ret).before args s = true) (hy : y.cls ≠ "java/lang/invoke/MethodHandle" ∧ y.cls ≠ "java/lang/invoke/VarHandle")
    {W9 : Nat} {Pre : Pt → Array Value → Prop} {Post : Pt → Array Value → Option Value → Pt → Prop} {PostX : Pt → Array Value → Addr → Pt → Prop} (hK : vx_Back l R p e below s args y 3 W9 Pre Post PostX)
    {b : Addr} {cellB : Cell} (hcell : T.heap[b]? = some cellB) (hobj : cellB.vm.isStatics = false) (hcls : s.vm.findClass C = some cellB.cls)
    {g : JFrame} (hg : g.method = m) (hsize : g.locals.size = c.maxLocals) {argsL rest : List Value} (hlen : ∀ sig, parseMethodDescriptor y.desc = some sig → argsL.length = sig.parameters.length)
    (hstack : g.stack = argsL.reverse ++ .ref b :: rest) (hW : 2 * g.monitorRoom + (rest.map fun v => v.category).sum ≤ W9) (hdg : decode c.code g.pc = .ok (.invokevirtual index, 3))
    (hpre : ∀ vm₁, s.WarmedH vm₁ → Pre ⟨T.setVm vm₁, locs, cells, slots⟩ (Value.ref b :: argsL).toArray) :
    (∃ (v : Option Value) (vm₁ : Vm) (B : Pt), s.WarmedH vm₁ ∧ Stand p l e R s m args below meth c B.U B.locs B.cells B.slots ∧ Post ⟨T.setVm vm₁, locs, cells, slots⟩ (Value.ref b :: argsL).toArray v B ∧
      ∀ target, Steps p.tables e below (B.U.setTop { g with pc := g.pc + 3, stack := v.toList ++ rest }) target → Steps p.tables e below (T.setTop g) target) ∨
    (∃ (q : Addr) (vm₁ : Vm) (B : Pt), s.WarmedH vm₁ ∧ Stand p l e R s m args below meth c B.U B.locs B.cells B.slots ∧ PostX ⟨T.setVm vm₁, locs, cells, slots⟩ (Value.ref b :: argsL).toArray q B ∧
      Steps p.tables e below (T.setTop g) ((B.U.setTop { g with stack := rest }).pushFrame (.throwing q))) := by
  obtain ⟨mk, methM, hnamed, hmethM, hstM, habM⟩ := Cond.instanceMethod_spec hinst
  obtain ⟨methM', cM, hmethM', -, -, -, -, -, -, hsigM⟩ := Cond.code_spec hnamed hcode
  cases hmethM.symm.trans hmethM'
  obtain ⟨c2, r2, m2, q1, q2, q3, q4, kP, hkP, hkPi⟩ := Cond.selects_spec hsel
  cases hcls.symm.trans q1
  cases (State.methodFound?_of_named hnamed hy).symm.trans q2
  cases hnamed.symm.trans q3
  have hselP : selectMethod e.platform s.vm cellB.cls mk = .method mk := by rw [Launch.admits_selectMethod X.admits]; exact q4
  obtain ⟨vm₁, X₁, hstep₁⟩ := X.invokevirtual hexec hown hlink hnamed hmethM hstM hkP hkPi hy (a := b) (cell := cellB) hcell
    (fun z h => by rw [h] at hobj; cases hobj) hselP hmethM habM hkP hkPi (g := g) hg (argsL := argsL) (rest := rest) (hlen _ hsigM) hstack hdg
  rcases hK m meth c ⟨T.setVm vm₁, locs, cells, slots⟩ { g with stack := rest } (.invokevirtual index) mk (Value.ref b :: argsL).toArray X₁ hg hsize hdg hW (X₁.named hnamed) (hpre vm₁ X₁.warmed) with ⟨v, B, X', hpost, hsteps⟩ | ⟨q, B, X', hpost, hsteps⟩
  · exact Or.inl ⟨v, vm₁, B, X₁.warmed, X', hpost, fun target h => hstep₁ _ fun acts => by rw [doInvoke_state]; exact hsteps.trans h⟩
  · exact Or.inr ⟨q, vm₁, B, X₁.warmed, X', hpost, hstep₁ _ fun acts => by rw [doInvoke_state]; exact hsteps⟩
theorem vx_callS (X : Stand p l e R s m args below meth c T locs cells slots) (hexec : p.tables.exec = Jvm.exec) {own : String} {index : Nat} {y : MethodName} {bytes : ByteArray} {maxL : Nat} {ret : Option FieldType}
    (hown : s.vm.findClass own = some m.cls) (hlink : (Cond.methodLink own index y).before args s = true) (hstat : (Cond.static y).before args s = true) (hinit : (Cond.initialized y.cls).before args s = true)
    (hcode : (Cond.code y bytes maxL ret).before args s = true) (hy : y.cls ≠ "java/lang/invoke/MethodHandle" ∧ y.cls ≠ "java/lang/invoke/VarHandle")
    {W9 : Nat} {Pre : Pt → Array Value → Prop} {Post : Pt → Array Value → Option Value → Pt → Prop} {PostX : Pt → Array Value → Addr → Pt → Prop} (hK : vx_Back l R p e below s args y 3 W9 Pre Post PostX)
    {g : JFrame} (hg : g.method = m) (hsize : g.locals.size = c.maxLocals) {argsL rest : List Value} (hlen : ∀ sig, parseMethodDescriptor y.desc = some sig → argsL.length = sig.parameters.length)
    (hstack : g.stack = argsL.reverse ++ rest) (hW : 2 * g.monitorRoom + (rest.map fun v => v.category).sum ≤ W9) (hdg : decode c.code g.pc = .ok (.invokestatic index, 3))
    (hpre : ∀ vm₁, s.WarmedH vm₁ → Pre ⟨T.setVm vm₁, locs, cells, slots⟩ argsL.toArray) :
    (∃ (v : Option Value) (vm₁ : Vm) (B : Pt), s.WarmedH vm₁ ∧ Stand p l e R s m args below meth c B.U B.locs B.cells B.slots ∧ Post ⟨T.setVm vm₁, locs, cells, slots⟩ argsL.toArray v B ∧
      ∀ target, Steps p.tables e below (B.U.setTop { g with pc := g.pc + 3, stack := v.toList ++ rest }) target → Steps p.tables e below (T.setTop g) target) ∨
    (∃ (q : Addr) (vm₁ : Vm) (B : Pt), s.WarmedH vm₁ ∧ Stand p l e R s m args below meth c B.U B.locs B.cells B.slots ∧ PostX ⟨T.setVm vm₁, locs, cells, slots⟩ argsL.toArray q B ∧
      Steps p.tables e below (T.setTop g) ((B.U.setTop { g with stack := rest }).pushFrame (.throwing q))) := by
  obtain ⟨mk, hnamed⟩ := Cond.code_named hcode
  obtain ⟨methM, cM, hmethM, -, -, -, -, -, -, hsigM⟩ := Cond.code_spec hnamed hcode
  have hstatic : methM.isStatic = true := Cond.static_spec hnamed hmethM hstat
  obtain ⟨kP, hkP, -⟩ := className_of_methodNamed hnamed
  have hinitP : kP.init = .initialized := Cond.initialized_spec (findClass_of_methodNamed hnamed) hkP hinit
  obtain ⟨vm₁, X₁, hstep₁⟩ := X.invokestatic hexec hown hlink hnamed hmethM hstatic hkP hinitP hy (g := g) hg (argsL := argsL) (rest := rest) (hlen _ hsigM) hstack hdg
  rcases hK m meth c ⟨T.setVm vm₁, locs, cells, slots⟩ { g with stack := rest } (.invokestatic index) mk argsL.toArray X₁ hg hsize hdg hW (X₁.named hnamed) (hpre vm₁ X₁.warmed) with ⟨v, B, X', hpost, hsteps⟩ | ⟨q, B, X', hpost, hsteps⟩
  · exact Or.inl ⟨v, vm₁, B, X₁.warmed, X', hpost, fun target h => hstep₁ _ fun acts => by rw [doInvoke_state]; exact hsteps.trans h⟩
  · exact Or.inr ⟨q, vm₁, B, X₁.warmed, X', hpost, hstep₁ _ fun acts => by rw [doInvoke_state]; exact hsteps⟩
end Calls
theorem vx_cls {s : State} {T : State} {vm₁ : Vm} {E : String} {k : ClassId} (hW : s.WarmedH vm₁) (h : (T.setVm vm₁).vm.findClass E = some k) : s.vm.findClass E = some k := by
  have h1 : vm₁.findClass E = some k := h
  rw [hW.alike.findClass] at h1
  exact h1
/-- the method's frame g, with q thrown over it -/
def vx_W (p : Program) (l : Launch) (e : Env) (R : Room) (s : State) (m : MethodId) (args : Array Value) (below : List Frame) (meth : Method) (c : Code) (H : Heap) (locs : List Loc) (cells slots : Nat) (Q : State → Prop) (g : JFrame) (q : Addr) : Prop :=
  ∀ T : State, T.heap = H → Stand p l e R s m args below meth c T locs cells slots → ∃ t, Steps p.tables e below ((T.setTop g).pushFrame (.throwing q)) t ∧ Q t
def vx_Run (p : Program) (l : Launch) (e : Env) (R : Room) (s : State) (m : MethodId) (args : Array Value) (below : List Frame) (meth : Method) (c : Code) (H : Heap) (locs : List Loc) (cells slots mc ms : Nat) (g : JFrame) (rest : List Value) (Qa : State → Outcome → State → Prop) (XC : String → State → State → Prop) (free : Addr → Prop) : Prop :=
  ∀ T : State, T.heap = H → Stand p l e R s m args below meth c T locs cells slots →
    (∃ (v : Option Value) (st₀ t T' : State) (L : List Loc), st₀.heap = H ∧ Stand p l e R s m args below meth c T' (locs ++ L) (cells + mc) (slots + ms) ∧ (∀ q ∈ L, free q.base) ∧ T'.heap = t.heap ∧ T'.vm = t.vm ∧ Qa st₀ (.returned v) t ∧
      Goes p e below T g T' { g with pc := g.pc + 3, stack := v.toList ++ rest }) ∨
    (∃ (q : Addr) (st₀ t T' : State) (L : List Loc) (E : String) (ce : Cell), st₀.heap = H ∧ Stand p l e R s m args below meth c T' (locs ++ L) (cells + mc) (slots + ms) ∧ (∀ z ∈ L, free z.base) ∧ T'.heap = t.heap ∧ T'.vm = t.vm ∧ XC E st₀ t ∧ t.heap[q]? = some ce ∧ ce.vm = .none ∧ s.vm.findClass E = some ce.cls ∧
      Steps p.tables e below (T.setTop g) ((T'.setTop { g with stack := rest }).pushFrame (.throwing q)))
def vx_X {S : Type} (px : S → Prop) (B : String → S → State → Prop) (A : Nat → Prop) : String → State → State → Prop := fun E st t => ∃ u : S, px u ∧ B E u t ∧ va_F A st t
section Runs
variable {p : Program} {l : Launch} {e : Env} {R : Room} {s : State} {m : MethodId} {args : Array Value} {below : List Frame} {meth : Method} {c : Code} {H : Heap} {locs : List Loc} {cells slots : Nat}
variable {y : MethodName} {bytes cc : ByteArray} {maxL nL mc ms n index : Nat} {ret : Option FieldType} {ws : List Cond} {rm : Room} {Pc : Array Value → State → Prop} {Qc : Array Value → State → Outcome → State → Prop} {XC : String → State → State → Prop} {free : Addr → Prop} {Ts : List Cond} {own C : String} {b : Addr} {As rest : List Value} {g : JFrame}
theorem vx_callBack (cb : CallB R s args own index y bytes maxL ret ws rm mc ms n) (hM : vx_Met l y ws rm Pc Qc XC mc ms free) (hbl : FrameBlind Pc) : vx_Back l R p e below s args y 3 8 (PreOf R mc ms Pc) (PostOf Qc mc ms free) (vx_Post XC mc ms free) := by
  obtain ⟨hrc, hrs, hfr, hlo, hws, hcw, -, hini, -⟩ := cb
  exact vx_back (bytes := bytes) (maxL := maxL) (ret := ret) hM hbl hrc hrs hfr hlo hws hcw (fun a' U hW => word_at hW (Or.inl (by first | rfl | simp [Cond.onTables, Cond.keeps, Cond.steady])) hini)
theorem vx_runV (S : CallFix p m c cc nL s args Ts own) (hM : vx_Met l y ws rm Pc Qc XC mc ms free) (cw : CallW R s args own C index y bytes maxL ret ws rm mc ms n) (hp : PreV s H C b Pc As)
    (hg : g.method = m) (hn : As.length = n) (hsize : g.locals.size = nL) (hstack : g.stack = As.reverse ++ .ref b :: rest) (hW : 2 * g.monitorRoom + (rest.map fun v => v.category).sum ≤ 8) (hdg : decode cc g.pc = .ok (.invokevirtual index, 3)) (hf : cells + mc ≤ R.cells ∧ slots + ms ≤ R.slots) :
    vx_Run p l e R s m args below meth c H locs cells slots mc ms g rest (Qc (Value.ref b :: As).toArray) XC free := by
  have hK : vx_Back l R p e below s args y 3 8 (PreOf R mc ms Pc) (PostOf Qc mc ms free) (vx_Post XC mc ms free) := vx_callBack cw.1 hM hp.1
  obtain ⟨⟨-, -, -, -, -, -, hcode, -, hy, hlen, hl⟩, hin, hse⟩ := cw
  obtain ⟨hx, hb, hml, ho, -⟩ := S
  obtain ⟨-, ⟨cellB, hcB, hoB, hclB⟩, hPc⟩ := hp
  intro T hT X
  rcases vx_callV X hx (C := C) (bytes := bytes) (maxL := maxL) (ret := ret) ho hl hin hse hcode hy hK (by rw [hT]; exact hcB) hoB hclB hg (hsize.trans hml.symm) (argsL := As) (rest := rest) (fun sig h => hn.trans (hlen sig h)) hstack hW (by rw [hb]; exact hdg)
    (fun vm₁ hW₁ => ⟨hf.1, hf.2, hPc (T.setVm vm₁) hT hW₁⟩) with ⟨v, vm₁, ⟨U', l2, c2, s2⟩, hW₁, X', ⟨g', mk, t, L, e1, e2, hq, h1, hL, h2, h3⟩, st⟩ | ⟨q, vm₁, ⟨U', l2, c2, s2⟩, hW₁, X', ⟨g', mk, t, L, E, ce, e1, e2, hq, hce, hcv, hcl, h1, hL, h2, h3⟩, st⟩
  · dsimp only [Pt.U, Pt.locs, Pt.cells, Pt.slots] at X' e1 e2 h1 h2 h3 st
    subst h1; subst h2; subst h3
    exact Or.inl ⟨v, (T.setVm vm₁).calling g' mk (Value.ref b :: As).toArray, t, U', L, hT, X', hL, e1, e2, hq, st⟩
  · dsimp only [Pt.U, Pt.locs, Pt.cells, Pt.slots] at X' e1 e2 h1 h2 h3 st hcl
    subst h1; subst h2; subst h3
    exact Or.inr ⟨q, (T.setVm vm₁).calling g' mk (Value.ref b :: As).toArray, t, U', L, E, ce, hT, X', hL, e1, e2, hq, hce, hcv, vx_cls hW₁ hcl, st⟩
theorem vx_runS (S : CallFix p m c cc nL s args Ts own) (hM : vx_Met l y ws rm Pc Qc XC mc ms free) (cw : CallB R s args own index y bytes maxL ret ws rm mc ms n ∧ (Cond.static y).before args s = true) (hp : PreS s H Pc As)
    (hg : g.method = m) (hn : As.length = n) (hsize : g.locals.size = nL) (hstack : g.stack = As.reverse ++ rest) (hW : 2 * g.monitorRoom + (rest.map fun v => v.category).sum ≤ 8) (hdg : decode cc g.pc = .ok (.invokestatic index, 3)) (hf : cells + mc ≤ R.cells ∧ slots + ms ≤ R.slots) :
    vx_Run p l e R s m args below meth c H locs cells slots mc ms g rest (Qc As.toArray) XC free := by
  have hK : vx_Back l R p e below s args y 3 8 (PreOf R mc ms Pc) (PostOf Qc mc ms free) (vx_Post XC mc ms free) := vx_callBack cw.1 hM hp.1
  obtain ⟨⟨-, -, -, -, -, -, hcode, hini, hy, hlen, hl⟩, hstt⟩ := cw
  obtain ⟨hx, hb, hml, ho, -⟩ := S
  intro T hT X
  rcases vx_callS X hx (bytes := bytes) (maxL := maxL) (ret := ret) ho hl hstt hini hcode hy hK hg (hsize.trans hml.symm) (argsL := As) (rest := rest) (fun sig h => hn.trans (hlen sig h)) hstack hW (by rw [hb]; exact hdg)
    (fun vm₁ hW₁ => ⟨hf.1, hf.2, hp.2 (T.setVm vm₁) hT hW₁⟩) with ⟨v, vm₁, ⟨U', l2, c2, s2⟩, hW₁, X', ⟨g', mk, t, L, e1, e2, hq, h1, hL, h2, h3⟩, st⟩ | ⟨q, vm₁, ⟨U', l2, c2, s2⟩, hW₁, X', ⟨g', mk, t, L, E, ce, e1, e2, hq, hce, hcv, hcl, h1, hL, h2, h3⟩, st⟩
  · dsimp only [Pt.U, Pt.locs, Pt.cells, Pt.slots] at X' e1 e2 h1 h2 h3 st
    subst h1; subst h2; subst h3
    exact Or.inl ⟨v, (T.setVm vm₁).calling g' mk As.toArray, t, U', L, hT, X', hL, e1, e2, hq, st⟩
  · dsimp only [Pt.U, Pt.locs, Pt.cells, Pt.slots] at X' e1 e2 h1 h2 h3 st hcl
    subst h1; subst h2; subst h3
    exact Or.inr ⟨q, (T.setVm vm₁).calling g' mk As.toArray, t, U', L, E, ce, hT, X', hL, e1, e2, hq, hce, hcv, vx_cls hW₁ hcl, st⟩
end Runs
section Rows
variable {p : Program} {l : Launch} {e : Env} {R : Room} {s : State} {m : MethodId} {args : Array Value} {below : List Frame} {meth : Method} {c : Code} {H : Heap} {locs : List Loc} {cells slots : Nat} {Q : State → Prop}
variable {mc ms : Nat} {free : Addr → Prop} {A0 A1 : Nat → Prop} {H0 : Heap} {a : Array Value} {pc : Nat} {ls : Array Slot} {st0 rest : List Value}
theorem vx_keep {st₀ t T' : State} {L : List Loc} (h0 : st₀.heap = H) (e1 : T'.heap = t.heap) (hS : va_S A0 H0 H locs) (hA : ∀ q, q < H.size → A1 q → A0 q) (hf : ∀ q, free q → A0 q) (hL : ∀ q ∈ L, free q.base) (hF : va_F A1 st₀ t) :
    H.size ≤ T'.heap.size ∧ (∀ q : Nat, q < H.size → ¬ A1 q → T'.heap[q]? = H[q]?) ∧ va_S A0 H0 T'.heap (locs ++ L) := by
  obtain ⟨hz, hk⟩ := hF
  rw [h0] at hz hk
  exact ⟨by rw [e1]; exact hz, fun q h1 h2 => by rw [e1]; exact hk q h1 h2,
    ⟨Nat.le_trans hS.1 (by rw [e1]; exact hz), fun q h1 h2 => by rw [e1, hk q (Nat.lt_of_lt_of_le h1 hS.1) (fun z => h2 (hA q (Nat.lt_of_lt_of_le h1 hS.1) z))]; exact hS.2.1 q h1 h2, fun q hq => by
      rcases List.mem_append.mp hq with h | h
      · exact hS.2.2 q h
      · exact hf _ (hL q h)⟩⟩
theorem vx_calli {S SX : Type} {post : Int32 → S → Prop} {px : SX → Prop} {B : S → State → Prop} {BX : String → SX → State → Prop} {AX : Nat → Prop} (hr : vx_Run p l e R s m args below meth c H locs cells slots mc ms (F0 m pc ls st0) rest (va_Qi post B A1 a) (vx_X px BX AX) free) (hS : va_S A0 H0 H locs) (hA : ∀ q, q < H.size → A1 q → A0 q) (hf : ∀ q, free q → A0 q) (hAX : ∀ q, q < H.size → AX q → A0 q)
    (kx : ∀ (E : String) (ce : Cell) (q9 : Addr) (u : SX) (t : State) (H1 : Heap) (locs1 : List Loc), t.heap = H1 → s.vm.Alike t.vm → px u → BX E u t → H.size ≤ H1.size → (∀ q : Nat, q < H.size → ¬ AX q → H1[q]? = H[q]?) → va_S A0 H0 H1 locs1 → H1[q9]? = some ce → ce.vm = .none → s.vm.findClass E = some ce.cls → vx_W p l e R s m args below meth c H1 locs1 (cells + mc) (slots + ms) Q (F0 m pc ls rest) q9)
    (kk : ∀ (r : Int32) (u : S) (t : State) (H1 : Heap) (locs1 : List Loc), t.heap = H1 → s.vm.Alike t.vm → post r u → B u t → H.size ≤ H1.size → (∀ q : Nat, q < H.size → ¬ A1 q → H1[q]? = H[q]?) → va_S A0 H0 H1 locs1 → W p l e R s m args below meth c H1 locs1 (cells + mc) (slots + ms) Q (F0 m (pc + 3) ls (.int r :: rest))) : W p l e R s m args below meth c H locs cells slots Q (F0 m pc ls st0) := by
  intro T hT X
  rcases hr T hT X with ⟨v, st₀, t, T', L, h0, X', hL, e1, e2, ⟨⟨r, u, hv, hp, hb⟩, hF⟩, st⟩ | ⟨q, st₀, t, T', L, E, ce, h0, X', hL, e1, e2, ⟨u, hp, hb, hF⟩, hce, hcv, hcl, st⟩
  · cases hv
    obtain ⟨k1, k2, k3⟩ := vx_keep h0 e1 hS hA hf hL hF
    obtain ⟨t2, a1, b1⟩ := kk r u t T'.heap (locs ++ L) e1.symm (by rw [← e2]; exact X'.warmed.alike) hp hb k1 k2 k3 T' rfl X'
    exact ⟨t2, st t2 a1, b1⟩
  · obtain ⟨k1, k2, k3⟩ := vx_keep h0 e1 hS hAX hf hL hF
    obtain ⟨t2, a1, b1⟩ := kx E ce q u t T'.heap (locs ++ L) e1.symm (by rw [← e2]; exact X'.warmed.alike) hp hb k1 k2 k3 (by rw [e1]; exact hce) hcv hcl T' rfl X'
    exact ⟨t2, st.trans a1, b1⟩
theorem vx_calll {S SX : Type} {post : Int64 → S → Prop} {px : SX → Prop} {B : S → State → Prop} {BX : String → SX → State → Prop} {AX : Nat → Prop} (hr : vx_Run p l e R s m args below meth c H locs cells slots mc ms (F0 m pc ls st0) rest (va_Ql post B A1 a) (vx_X px BX AX) free) (hS : va_S A0 H0 H locs) (hA : ∀ q, q < H.size → A1 q → A0 q) (hf : ∀ q, free q → A0 q) (hAX : ∀ q, q < H.size → AX q → A0 q)
    (kx : ∀ (E : String) (ce : Cell) (q9 : Addr) (u : SX) (t : State) (H1 : Heap) (locs1 : List Loc), t.heap = H1 → s.vm.Alike t.vm → px u → BX E u t → H.size ≤ H1.size → (∀ q : Nat, q < H.size → ¬ AX q → H1[q]? = H[q]?) → va_S A0 H0 H1 locs1 → H1[q9]? = some ce → ce.vm = .none → s.vm.findClass E = some ce.cls → vx_W p l e R s m args below meth c H1 locs1 (cells + mc) (slots + ms) Q (F0 m pc ls rest) q9)
    (kk : ∀ (r : Int64) (u : S) (t : State) (H1 : Heap) (locs1 : List Loc), t.heap = H1 → s.vm.Alike t.vm → post r u → B u t → H.size ≤ H1.size → (∀ q : Nat, q < H.size → ¬ A1 q → H1[q]? = H[q]?) → va_S A0 H0 H1 locs1 → W p l e R s m args below meth c H1 locs1 (cells + mc) (slots + ms) Q (F0 m (pc + 3) ls (.long r :: rest))) : W p l e R s m args below meth c H locs cells slots Q (F0 m pc ls st0) := by
  intro T hT X
  rcases hr T hT X with ⟨v, st₀, t, T', L, h0, X', hL, e1, e2, ⟨⟨r, u, hv, hp, hb⟩, hF⟩, st⟩ | ⟨q, st₀, t, T', L, E, ce, h0, X', hL, e1, e2, ⟨u, hp, hb, hF⟩, hce, hcv, hcl, st⟩
  · cases hv
    obtain ⟨k1, k2, k3⟩ := vx_keep h0 e1 hS hA hf hL hF
    obtain ⟨t2, a1, b1⟩ := kk r u t T'.heap (locs ++ L) e1.symm (by rw [← e2]; exact X'.warmed.alike) hp hb k1 k2 k3 T' rfl X'
    exact ⟨t2, st t2 a1, b1⟩
  · obtain ⟨k1, k2, k3⟩ := vx_keep h0 e1 hS hAX hf hL hF
    obtain ⟨t2, a1, b1⟩ := kx E ce q u t T'.heap (locs ++ L) e1.symm (by rw [← e2]; exact X'.warmed.alike) hp hb k1 k2 k3 (by rw [e1]; exact hce) hcv hcl T' rfl X'
    exact ⟨t2, st.trans a1, b1⟩
theorem vx_callf {S SX : Type} {post : UInt32 → S → Prop} {px : SX → Prop} {B : S → State → Prop} {BX : String → SX → State → Prop} {AX : Nat → Prop} (hr : vx_Run p l e R s m args below meth c H locs cells slots mc ms (F0 m pc ls st0) rest (va_Qf post B A1 a) (vx_X px BX AX) free) (hS : va_S A0 H0 H locs) (hA : ∀ q, q < H.size → A1 q → A0 q) (hf : ∀ q, free q → A0 q) (hAX : ∀ q, q < H.size → AX q → A0 q)
    (kx : ∀ (E : String) (ce : Cell) (q9 : Addr) (u : SX) (t : State) (H1 : Heap) (locs1 : List Loc), t.heap = H1 → s.vm.Alike t.vm → px u → BX E u t → H.size ≤ H1.size → (∀ q : Nat, q < H.size → ¬ AX q → H1[q]? = H[q]?) → va_S A0 H0 H1 locs1 → H1[q9]? = some ce → ce.vm = .none → s.vm.findClass E = some ce.cls → vx_W p l e R s m args below meth c H1 locs1 (cells + mc) (slots + ms) Q (F0 m pc ls rest) q9)
    (kk : ∀ (r : UInt32) (u : S) (t : State) (H1 : Heap) (locs1 : List Loc), t.heap = H1 → s.vm.Alike t.vm → post r u → B u t → H.size ≤ H1.size → (∀ q : Nat, q < H.size → ¬ A1 q → H1[q]? = H[q]?) → va_S A0 H0 H1 locs1 → W p l e R s m args below meth c H1 locs1 (cells + mc) (slots + ms) Q (F0 m (pc + 3) ls (.float r :: rest))) : W p l e R s m args below meth c H locs cells slots Q (F0 m pc ls st0) := by
  intro T hT X
  rcases hr T hT X with ⟨v, st₀, t, T', L, h0, X', hL, e1, e2, ⟨⟨r, u, hv, hp, hb⟩, hF⟩, st⟩ | ⟨q, st₀, t, T', L, E, ce, h0, X', hL, e1, e2, ⟨u, hp, hb, hF⟩, hce, hcv, hcl, st⟩
  · cases hv
    obtain ⟨k1, k2, k3⟩ := vx_keep h0 e1 hS hA hf hL hF
    obtain ⟨t2, a1, b1⟩ := kk r u t T'.heap (locs ++ L) e1.symm (by rw [← e2]; exact X'.warmed.alike) hp hb k1 k2 k3 T' rfl X'
    exact ⟨t2, st t2 a1, b1⟩
  · obtain ⟨k1, k2, k3⟩ := vx_keep h0 e1 hS hAX hf hL hF
    obtain ⟨t2, a1, b1⟩ := kx E ce q u t T'.heap (locs ++ L) e1.symm (by rw [← e2]; exact X'.warmed.alike) hp hb k1 k2 k3 (by rw [e1]; exact hce) hcv hcl T' rfl X'
    exact ⟨t2, st.trans a1, b1⟩
theorem vx_calld {S SX : Type} {post : UInt64 → S → Prop} {px : SX → Prop} {B : S → State → Prop} {BX : String → SX → State → Prop} {AX : Nat → Prop} (hr : vx_Run p l e R s m args below meth c H locs cells slots mc ms (F0 m pc ls st0) rest (va_Qd post B A1 a) (vx_X px BX AX) free) (hS : va_S A0 H0 H locs) (hA : ∀ q, q < H.size → A1 q → A0 q) (hf : ∀ q, free q → A0 q) (hAX : ∀ q, q < H.size → AX q → A0 q)
    (kx : ∀ (E : String) (ce : Cell) (q9 : Addr) (u : SX) (t : State) (H1 : Heap) (locs1 : List Loc), t.heap = H1 → s.vm.Alike t.vm → px u → BX E u t → H.size ≤ H1.size → (∀ q : Nat, q < H.size → ¬ AX q → H1[q]? = H[q]?) → va_S A0 H0 H1 locs1 → H1[q9]? = some ce → ce.vm = .none → s.vm.findClass E = some ce.cls → vx_W p l e R s m args below meth c H1 locs1 (cells + mc) (slots + ms) Q (F0 m pc ls rest) q9)
    (kk : ∀ (r : UInt64) (u : S) (t : State) (H1 : Heap) (locs1 : List Loc), t.heap = H1 → s.vm.Alike t.vm → post r u → B u t → H.size ≤ H1.size → (∀ q : Nat, q < H.size → ¬ A1 q → H1[q]? = H[q]?) → va_S A0 H0 H1 locs1 → W p l e R s m args below meth c H1 locs1 (cells + mc) (slots + ms) Q (F0 m (pc + 3) ls (.double r :: rest))) : W p l e R s m args below meth c H locs cells slots Q (F0 m pc ls st0) := by
  intro T hT X
  rcases hr T hT X with ⟨v, st₀, t, T', L, h0, X', hL, e1, e2, ⟨⟨r, u, hv, hp, hb⟩, hF⟩, st⟩ | ⟨q, st₀, t, T', L, E, ce, h0, X', hL, e1, e2, ⟨u, hp, hb, hF⟩, hce, hcv, hcl, st⟩
  · cases hv
    obtain ⟨k1, k2, k3⟩ := vx_keep h0 e1 hS hA hf hL hF
    obtain ⟨t2, a1, b1⟩ := kk r u t T'.heap (locs ++ L) e1.symm (by rw [← e2]; exact X'.warmed.alike) hp hb k1 k2 k3 T' rfl X'
    exact ⟨t2, st t2 a1, b1⟩
  · obtain ⟨k1, k2, k3⟩ := vx_keep h0 e1 hS hAX hf hL hF
    obtain ⟨t2, a1, b1⟩ := kx E ce q u t T'.heap (locs ++ L) e1.symm (by rw [← e2]; exact X'.warmed.alike) hp hb k1 k2 k3 (by rw [e1]; exact hce) hcv hcl T' rfl X'
    exact ⟨t2, st.trans a1, b1⟩
theorem vx_callv {S SX : Type} {post : S → Prop} {px : SX → Prop} {B : S → State → Prop} {BX : String → SX → State → Prop} {AX : Nat → Prop} (hr : vx_Run p l e R s m args below meth c H locs cells slots mc ms (F0 m pc ls st0) rest (va_Qv post B A1 a) (vx_X px BX AX) free) (hS : va_S A0 H0 H locs) (hA : ∀ q, q < H.size → A1 q → A0 q) (hf : ∀ q, free q → A0 q) (hAX : ∀ q, q < H.size → AX q → A0 q)
    (kx : ∀ (E : String) (ce : Cell) (q9 : Addr) (u : SX) (t : State) (H1 : Heap) (locs1 : List Loc), t.heap = H1 → s.vm.Alike t.vm → px u → BX E u t → H.size ≤ H1.size → (∀ q : Nat, q < H.size → ¬ AX q → H1[q]? = H[q]?) → va_S A0 H0 H1 locs1 → H1[q9]? = some ce → ce.vm = .none → s.vm.findClass E = some ce.cls → vx_W p l e R s m args below meth c H1 locs1 (cells + mc) (slots + ms) Q (F0 m pc ls rest) q9)
    (kk : ∀ (u : S) (t : State) (H1 : Heap) (locs1 : List Loc), t.heap = H1 → s.vm.Alike t.vm → post u → B u t → H.size ≤ H1.size → (∀ q : Nat, q < H.size → ¬ A1 q → H1[q]? = H[q]?) → va_S A0 H0 H1 locs1 → W p l e R s m args below meth c H1 locs1 (cells + mc) (slots + ms) Q (F0 m (pc + 3) ls (rest))) : W p l e R s m args below meth c H locs cells slots Q (F0 m pc ls st0) := by
  intro T hT X
  rcases hr T hT X with ⟨v, st₀, t, T', L, h0, X', hL, e1, e2, ⟨⟨u, hv, hp, hb⟩, hF⟩, st⟩ | ⟨q, st₀, t, T', L, E, ce, h0, X', hL, e1, e2, ⟨u, hp, hb, hF⟩, hce, hcv, hcl, st⟩
  · cases hv
    obtain ⟨k1, k2, k3⟩ := vx_keep h0 e1 hS hA hf hL hF
    obtain ⟨t2, a1, b1⟩ := kk u t T'.heap (locs ++ L) e1.symm (by rw [← e2]; exact X'.warmed.alike) hp hb k1 k2 k3 T' rfl X'
    exact ⟨t2, st t2 a1, b1⟩
  · obtain ⟨k1, k2, k3⟩ := vx_keep h0 e1 hS hAX hf hL hF
    obtain ⟨t2, a1, b1⟩ := kx E ce q u t T'.heap (locs ++ L) e1.symm (by rw [← e2]; exact X'.warmed.alike) hp hb k1 k2 k3 (by rw [e1]; exact hce) hcv hcl T' rfl X'
    exact ⟨t2, st.trans a1, b1⟩
/-- caught by the row x of this method's table; the rows ahead don't take it -/
theorem vx_catch {own name : String} {E : String} {ce : Cell} {q : Addr} (hown : s.vm.findClass own = some m.cls) (pre : List ExceptionTableEntry) (x : ExceptionTableEntry) (suf : List ExceptionTableEntry) (hsplit : c.exceptionTable.toList = pre ++ x :: suf)
    (hpass : ∀ z ∈ pre, covers z pc = false ∨ (z.catchType ≠ 0 ∧ ∃ nm : String, (Cond.classLink own z.catchType nm).before args s = true ∧ va_Nc E nm s)) (hx : covers x pc = true) (h0 : x.catchType ≠ 0)
    (hlink : (Cond.classLink own x.catchType name).before args s = true) (hcast : (Cond.castable E name).before args s = true) (hcell : H[q]? = some ce) (hv : ce.vm = .none) (hcl : s.vm.findClass E = some ce.cls)
    (kk : W p l e R s m args below meth c H locs cells slots Q (F0 m x.handlerPc ls [.ref q])) : vx_W p l e R s m args below meth c H locs cells slots Q (F0 m pc ls rest) q := by
  intro T hT X
  have hpl : e.platform.magicAccessors = ({} : Platform).magicAccessors := by rw [X.admits.platform]
  obtain ⟨c3, c4, hc3, hc4, hasg⟩ := Cond.castable_spec hcast
  cases Option.some.inj (hc3.symm.trans hcl)
  obtain ⟨c5, hc5, hcl5⟩ := Cond.classLink_spec hown hlink e.platform hpl
  cases Option.some.inj (hc4.symm.trans hc5)
  obtain ⟨vm', X', st⟩ := X.thenCaughtThrough q (g := F0 m pc ls rest) rfl (Steps.refl _) (by rw [hT]; exact hcell) (by rw [hv]; rfl) (by obtain ⟨k9, h9, -⟩ := Vm.findClass_spec hcl; exact ⟨k9, h9⟩) pre x suf hsplit
    (fun z hz => by
      rcases hpass z hz with h | ⟨hz0, nm, hl1, hn1⟩
      · exact Or.inl h
      · obtain ⟨c6, hc6, hcl6⟩ := Cond.classLink_spec hown hl1 e.platform hpl
        obtain ⟨a8, b8, h1, h2, h3⟩ := hn1
        cases Option.some.inj (h1.symm.trans hcl)
        cases Option.some.inj (h2.symm.trans hc6)
        exact Or.inr ⟨hz0, _, hcl6, h3⟩) hx (Or.inr ⟨h0, c4, hcl5, hasg⟩)
  obtain ⟨t, a1, b1⟩ := kk (T.setVm vm') hT X'
  exact ⟨t, st.trans a1, b1⟩
end Rows
section Ends
variable {p : Program} {l : Launch} {e : Env} {R : Room} {s : State} {m : MethodId} {args : Array Value} {below : List Frame} {meth : Method} {c : Code} {H : Heap} {locs : List Loc} {cells slots : Nat} {Q : State → Prop}
variable {mc ms : Nat} {free : Addr → Prop} {A0 A1 : Nat → Prop} {H0 : Heap} {a : Array Value} {ls : Array Slot} {st0 rest : List Value}
variable {Qc : Array Value → State → Outcome → State → Prop} {XC : String → State → State → Prop}
/-- what a body that may throw owes at its end -/
def vx_MQ (below : List Frame) (Qc : Array Value → State → Outcome → State → Prop) (XC : String → State → State → Prop) (a : Array Value) (s : State) (mc ms : Nat) (free : Addr → Prop) : State → Prop := fun t =>
  ∃ o, t.status = .running ∧ Ended t below o ∧ vx_Q Qc XC mc ms free a s o t
theorem vx_ret {g : JFrame} {mc ms : Nat} (k : W p l e R s m args below meth c H locs cells slots (MQ below Qc args s mc ms free) g) : W p l e R s m args below meth c H locs cells slots (vx_MQ below Qc XC args s mc ms free) g := by
  intro T hT X
  obtain ⟨t, a1, o, b1, b2, b3, b4⟩ := k T hT X
  exact ⟨t, a1, o, b1, b2, Or.inl ⟨b3, b4⟩⟩
/-- not caught here: it goes on to the caller -/
theorem vx_widen {g : JFrame} {q : Addr} {k n : Nat} (h1 : cells ≤ k) (h2 : slots ≤ n) (kk : vx_W p l e R s m args below meth c H locs k n Q g q) : vx_W p l e R s m args below meth c H locs cells slots Q g q := fun T hT X => kk T hT (stand_widen X h1 h2)
theorem vx_out {pc : Nat} {E : String} {ce : Cell} {q : Addr} {mc ms : Nat} (hout : ∀ x ∈ c.exceptionTable.toList, covers x pc = false) (hlocks : meth.locks = false) (hcell : H[q]? = some ce) (hv : ce.vm = .none) (hcl : s.vm.findClass E = some ce.cls)
    (hx : ∀ t : State, t.heap = H → s.vm.Alike t.vm → XC E s t) (hf : ∀ z ∈ locs, free z.base) (hc : cells ≤ mc) (hs : slots ≤ ms) :
    vx_W p l e R s m args below meth c H locs cells slots (vx_MQ below Qc XC args s mc ms free) (F0 m pc ls rest) q := by
  intro T hT X
  obtain ⟨st1, hrun, hend, hW, hsm⟩ := X.leaveThrown q (g := F0 m pc ls rest) rfl rfl rfl hout hlocks
  have hcell9 : (T.setFrames (.throwing q :: below)).heap[q]? = some ce := by
    show T.heap[q]? = some ce
    rw [hT]; exact hcell
  exact ⟨_, st1, .threw q, hrun, hend, Or.inr ⟨q, rfl, E, ce, locs, hx _ hT hW.alike, hcell9, hv, hcl, hW, hsm.mono hc hs, hf⟩⟩
theorem vx_frame {U : State} {k n : Nat} (h : s.sameButNew ({ U with vm := s.vm } : State) locs k n) : s.heap.size ≤ U.heap.size ∧ ∀ q : Nat, q < s.heap.size → (∀ z ∈ locs, z.base ≠ q) → U.heap[q]? = s.heap[q]? := by
  obtain ⟨-, h2, -, -, -, h6⟩ := h
  refine ⟨h2, fun q hq hz => ?_⟩
  obtain ⟨c9, e1, e2, e3, e4⟩ := h6 q _ (Array.getElem?_eq_getElem hq)
  have hs : c9.slots = (s.heap[q]).slots := Array.ext_getElem? fun i => e4 i fun hm => hz _ hm rfl
  have h9 : c9 = s.heap[q] := by
    rw [hs] at e2
    exact e2
  have e5 : U.heap[q]? = some c9 := e1
  rw [e5, h9, Array.getElem?_eq_getElem hq]
/-- the words of a throw but the four that speak of the heap -/
def vx_no (w : Cond) : Bool := decide (w ≠ .isRef (.static Bundle.tN "UNASSIGNED_STACK" Bundle.steD)) && decide (w ≠ .isRef (.static Bundle.tN "SUPPRESSED_SENTINEL" Bundle.listD)) && decide (w ≠ .laysStatic Bundle.tN "UNASSIGNED_STACK" Bundle.steD) && decide (w ≠ .laysStatic Bundle.tN "SUPPRESSED_SENTINEL" Bundle.listD)
def vx_at0 (own : String) (ic : Nat) (X : String) (names : List String) : List Cond := (Bundle.ownAtoms0 own ic X names).filter vx_no
def vx_atS (own : String) (ic : Nat) (X : String) (names : List String) : List Cond := (Bundle.ownAtoms own ic X names).filter vx_no
/-- a word that the tables alone decide, or a good one -/
def vx_ot (w : Cond) : Bool := w.onTables || goodWord w
theorem vx_ot_at {args a' : Array Value} {s U : State} {w : Cond} (hW : s.WarmedH U.vm) (hvm : s.vm = U.vm) (hg : vx_ot w = true) (h : w.before args s = true) : w.before a' U = true := by
  simp only [vx_ot, Bool.or_eq_true] at hg
  rcases hg with hg | hg
  · exact va_tabs hg hvm h
  · exact word_at hW (good_of_word hg) h
/-- a list's words: the good ones out of the method's own list, the others by premises of their own -/
theorem vx_hat {args : Array Value} {s : State} {L B : List Cond} (h1 : ∀ w ∈ L.filter goodWord, w.before args s = true) (h2 : ∀ w ∈ L.filter (fun w => !goodWord w), w ∈ B) (h3 : ∀ w ∈ B, w.before args s = true) : ∀ w ∈ L, w.before args s = true := by
  intro w hw
  by_cases g : goodWord w = true
  · exact h1 w (List.mem_filter.mpr ⟨hw, g⟩)
  · refine h3 w (h2 w (List.mem_filter.mpr ⟨hw, ?_⟩))
    show (!goodWord w) = true
    cases hgw : goodWord w
    · rfl
    · exact absurd hgw g
theorem vx_c {args : Array Value} {s : State} {w : Cond} {B : List Cond} (h : w.before args s = true) (t : ∀ w ∈ B, w.before args s = true) : ∀ w' ∈ w :: B, w'.before args s = true := fun w' h' => (List.mem_cons.mp h').elim (fun e => by rw [e]; exact h) (t w')
theorem vx_n {args : Array Value} {s : State} : ∀ w ∈ ([] : List Cond), w.before args s = true := fun _ h => nomatch h
theorem vx_own {args : Array Value} {s : State} {L : List Cond} (h1 : ∀ w ∈ L.filter vx_no, w.before args s = true)
    (hU : (Cond.isRef (.static Bundle.tN "UNASSIGNED_STACK" Bundle.steD)).before args s = true) (hN : (Cond.isRef (.static Bundle.tN "SUPPRESSED_SENTINEL" Bundle.listD)).before args s = true)
    (lU : (Cond.laysStatic Bundle.tN "UNASSIGNED_STACK" Bundle.steD).before args s = true) (lN : (Cond.laysStatic Bundle.tN "SUPPRESSED_SENTINEL" Bundle.listD).before args s = true) : ∀ w ∈ L, w.before args s = true := by
  intro w hw
  by_cases e1 : w = .isRef (.static Bundle.tN "UNASSIGNED_STACK" Bundle.steD)
  · rw [e1]; exact hU
  · by_cases e2 : w = .isRef (.static Bundle.tN "SUPPRESSED_SENTINEL" Bundle.listD)
    · rw [e2]; exact hN
    · by_cases e3 : w = .laysStatic Bundle.tN "UNASSIGNED_STACK" Bundle.steD
      · rw [e3]; exact lU
      · by_cases e4 : w = .laysStatic Bundle.tN "SUPPRESSED_SENTINEL" Bundle.listD
        · rw [e4]; exact lN
        · exact h1 w (List.mem_filter.mpr ⟨hw, by unfold vx_no; rw [decide_eq_true e1, decide_eq_true e2, decide_eq_true e3, decide_eq_true e4]; rfl⟩)
/-- where a static field lies, its class's statics cell in H -/
def vx_L (C n d : String) (A : Nat → Prop) (U : State) (H : Heap) : Prop := ∃ (c : ClassId) (k : Class) (i : Nat) (f : Field) (a : Nat) (cell : Cell), U.vm.findClass C = some c ∧ U.fieldFound? C n d = some (c, k, i, f) ∧ f.isStatic = true ∧ k.statics = some a ∧ H[a]? = some cell ∧ cell.vm.isStatics = true ∧ cell.cls = c ∧ f.slot < cell.slots.size ∧ k.staticTypes[f.slot]? = some f.type ∧ ¬ A a
theorem vx_L.moved {C n d : String} {A : Nat → Prop} {u U : State} {H : Heap} (hvm : u.vm.Alike U.vm) (h : vx_L C n d A u H) : vx_L C n d A U H := by
  obtain ⟨c, k, i, f, a, cell, h1, h2, h3, h4, h5, h6, h7, h8, h9, h10⟩ := h
  obtain ⟨k', hi', he⟩ := State.fieldFound?_setVm hvm h2
  exact ⟨c, k', i, f, a, cell, by rw [hvm.findClass]; exact h1, hi', h3, by rw [he]; exact h4, h5, h6, h7, h8, by rw [he]; exact h9, h10⟩
theorem vx_L.kept {C n d : String} {A : Nat → Prop} {U : State} {H H1 : Heap} (h : vx_L C n d A U H) (hq : ∀ a : Nat, a < H.size → ¬ A a → H1[a]? = H[a]?) : vx_L C n d A U H1 := by
  obtain ⟨c, k, i, f, a, cell, h1, h2, h3, h4, h5, h6, h7, h8, h9, h10⟩ := h
  exact ⟨c, k, i, f, a, cell, h1, h2, h3, h4, by rw [hq a (Array.getElem?_eq_some_iff.mp h5).1 h10]; exact h5, h6, h7, h8, h9, h10⟩
theorem vx_L.narrow {C n d : String} {A B : Nat → Prop} {U : State} {H : Heap} (h : vx_L C n d A U H) (hAB : ∀ q, B q → A q) : vx_L C n d B U H := by
  obtain ⟨c, k, i, f, a, cell, h1, h2, h3, h4, h5, h6, h7, h8, h9, h10⟩ := h
  exact ⟨c, k, i, f, a, cell, h1, h2, h3, h4, h5, h6, h7, h8, h9, fun z => h10 (hAB _ z)⟩
theorem vx_L.word {C n d : String} {A : Nat → Prop} {s : State} {args : Array Value} (h : vx_L C n d A s s.heap) : (Cond.laysStatic C n d).before args s = true := by
  obtain ⟨c, k, i, f, a, cell, h1, h2, h3, h4, h5, h6, h7, h8, h9, -⟩ := h
  show (Cond.laysStatic C n d).holds args s none s [] = true
  exact Cond.laysStatic_of h1 h2 h3 h4 h5 h6 h7 h8 h9
/-- .. and what it holds: null or some reference -/
def vx_Zq (C n d : String) (A : Nat → Prop) (U : State) (H : Heap) : Prop := va_Zq C n d A U H ∧ vx_L C n d A U H
theorem vx_Zq.moved {C n d : String} {A : Nat → Prop} {u U : State} {H : Heap} (hvm : u.vm.Alike U.vm) (h : vx_Zq C n d A u H) : vx_Zq C n d A U H := ⟨va_Zq.moved hvm h.1, vx_L.moved hvm h.2⟩
theorem vx_Zq.kept {C n d : String} {A : Nat → Prop} {U : State} {H H1 : Heap} (h : vx_Zq C n d A U H) (hq : ∀ a : Nat, a < H.size → ¬ A a → H1[a]? = H[a]?) : vx_Zq C n d A U H1 := ⟨va_Zq.kept h.1 hq, vx_L.kept h.2 hq⟩
theorem vx_Zq.narrow {C n d : String} {A B : Nat → Prop} {U : State} {H : Heap} (h : vx_Zq C n d A U H) (hAB : ∀ q, B q → A q) : vx_Zq C n d B U H := ⟨va_Zq.narrow h.1 hAB, vx_L.narrow h.2 hAB⟩
theorem vx_Zqof {args : Array Value} {s : State} {C n d : String} {A : Nat → Prop} (hl : (Cond.laysStatic C n d).before args s = true) (hini : (Cond.initialized C).before args s = true) (h : (Cond.isRef (.static C n d)).before args s = true) (hA : ∀ a : Nat, a < s.heap.size → ¬ A a) : vx_Zq C n d A s s.heap := by
  refine ⟨va_Zqof hl hini h hA, ?_⟩
  obtain ⟨c, k, i, f, a, cell, h1, h2, h3, h4, h5, h6, h7, h8, h9⟩ := Cond.laysStatic_spec hl
  exact ⟨c, k, i, f, a, cell, h1, h2, h3, h4, h5, h6, h7, h8, h9, hA a (Array.getElem?_eq_some_iff.mp h5).1⟩
theorem vx_isRef {C n d : String} {v : Value} {A : Nat → Prop} {s : State} {args : Array Value} (h : va_Z C n d v A s s.heap) (hv : v.isRef = true) : (Cond.isRef (.static C n d)).before args s = true := by
  obtain ⟨cf, kf, fi, f, a, cell, h1, h2, h3, h4, h5, h6, h7, -⟩ := h
  have he : (Term.static C n d).eval args s none [] s = some v := by
    simp [Term.eval, State.fieldNamed?, h1, h2, h4, h5, h6, h7]
  simp only [Cond.before, Cond.holds, Cond.value, he]
  cases v <;> simp_all [Value.isRef]
theorem vx_isRefq {C n d : String} {A : Nat → Prop} {s : State} {args : Array Value} (h : va_Zq C n d A s s.heap) : (Cond.isRef (.static C n d)).before args s = true := by
  rcases h with h | ⟨t, h⟩
  · exact vx_isRef h rfl
  · exact vx_isRef h rfl
/-- the same frame, seen from here: as if the method were called anew in this heap -/
theorem vx_rebase {T : State} (X : Stand p l e R s m args below meth c T locs cells slots) {R' : Room} (hf : R'.frames ≤ R.frames) (hl : R'.locals ≤ R.locals) (hc : cells + R'.cells ≤ R.cells) (hs : slots + R'.slots ≤ R.slots) :
    Stand p l e R' ((T.setVm s.vm).setFrames (.invoking m args :: below)) m args below meth c T [] 0 0 := by
  have htop : (T.setVm s.vm).topJava?.isSome := X.here.top
  have hF : ((T.setVm s.vm).setFrames (.invoking m args :: below)).frames = .invoking m args :: below := State.frames_setFrames _ (State.cur_lt_of_top htop)
  obtain ⟨g₀, hg0⟩ := Option.isSome_iff_exists.mp htop
  obtain ⟨r, hr⟩ := State.topJava?_eq_some.mp hg0
  have hl9 : e.platform.stackLimits (T.setVm s.vm).me = e.platform.stackLimits s.me := X.limits
  have hb9 : (T.setVm s.vm).me.stackBytes = s.me.stackBytes := X.bytes
  refine ⟨X.admits, X.cas, X.clock, hF, ?_, X.hears, X.method, X.code, X.here, X.tail, X.warmed, ?_, ?_, ?_⟩
  · have h := X.room
    have hU : ((T.setVm s.vm).setFrames (.invoking m args :: below)).localsInUse = s.localsInUse := by
      rw [State.localsInUse_invoking hF (meth := meth) (c := c) X.method X.code, State.localsInUse_invoking X.frames X.method X.code]
    simp only [State.hasRoom, Bool.and_eq_true, decide_eq_true_eq] at h ⊢
    obtain ⟨⟨⟨⟨h1, h2, h3, h4, h5, h6⟩, h7⟩, h8⟩, h9⟩ := h
    rw [X.frames, List.length_cons] at h2 h3
    have q1 := X.heapSize
    have q2 := X.used
    simp only [hF, hU, List.length_cons, State.stackLimits_setFrames, State.stackBytes_setFrames, hl9, hb9]
    refine ⟨⟨⟨⟨by omega, by omega, by omega, by omega, by omega, h6⟩, ?_⟩, ?_⟩, X.book⟩
    · show T.heap.size + R'.cells ≤ e.platform.maxCells
      omega
    · show T.slotsUsed + R'.slots ≤ e.platform.maxSlots
      omega
  · rw [State.stackLimits_setFrames]; rfl
  · rw [State.stackBytes_setFrames]; rfl
  · refine ⟨?_, Nat.le_refl _, Nat.le_refl _, ?_, ?_, fun a c9 h9 => ⟨c9, h9, rfl, rfl, fun _ _ => rfl⟩⟩
    · obtain ⟨t, ht, -⟩ := State.frames_cons hr
      show T.setVm s.vm = { ((T.setVm s.vm).setFrames (.invoking m args :: below)).setFrames (T.setVm s.vm).frames with heap := T.heap, slotsUsed := T.slotsUsed }
      rw [State.setFrames_setFrames, State.setFrames_self ht]
      rfl
    · show T.slotsUsed = T.slotsUsed + ((T.heap.toList.drop T.heap.size).map (·.slots.size)).sum
      rw [List.drop_eq_nil_of_le (Nat.le_of_eq Array.length_toList)]
      rfl
    · show ((T.heap.toList.drop T.heap.size).map (·.slots.size)).sum ≤ 0
      rw [List.drop_eq_nil_of_le (Nat.le_of_eq Array.length_toList)]
      exact Nat.le_refl _
/-- 'throw new E()': new; dup; invokespecial; athrow -/
theorem vx_throw0 {cc : ByteArray} {pc : Nat} (hexec : p.tables.exec = Jvm.exec) (hb : c.code = cc) (hl : l.stackTraces = false) {own cls : String} {names : List String} {ik ic mc ms : Nat} {A : Nat → Prop}
    (hown : s.vm.findClass own = some m.cls) (hcls : Bundle.fit cls = true) (hnames : ∀ n ∈ names, Bundle.fit n = true)
    (hk : (Cond.classLink own ik cls).before args s = true) (hini : (Cond.initialized cls).before args s = true) (hat : ∀ w ∈ vx_at0 own ic cls names, w.before args s = true)
    (hgood : ∀ w ∈ Cond.classLink own ik cls :: Cond.initialized cls :: vx_at0 own ic cls names, vx_ot w = true)
    (hU : vx_Zq Bundle.tN "UNASSIGNED_STACK" Bundle.steD A s s.heap) (hN : vx_Zq Bundle.tN "SUPPRESSED_SENTINEL" Bundle.listD A s s.heap) (hS : va_S A s.heap H locs) (hsize : ls.size = c.maxLocals)
    (d0 : decode cc pc = .ok (.new ik, 3)) (d3 : decode cc (pc + 3) = .ok (.dup, 1)) (d4 : decode cc (pc + 4) = .ok (.invokespecial ic, 3)) (d7 : decode cc (pc + 7) = .ok (.athrow, 1))
    (hout : ∀ x ∈ c.exceptionTable.toList, covers x (pc + 7) = false)
    (hRframes : names.length + 3 < R.frames) (hRlocals : (rest.map fun v => v.category).sum + (13 * (names.length + 1) + 42) ≤ R.locals) (hRcells : cells + 1 ≤ R.cells) (hRslots : slots + 6 ≤ R.slots) (hlocks : meth.locks = false)
    (hx : ∀ t : State, s.vm.Alike t.vm → H.size ≤ t.heap.size → (∀ q : Nat, q < H.size → t.heap[q]? = H[q]?) → XC cls s t)
    (hf : ∀ z ∈ locs, free z.base) (hc : cells + 1 ≤ mc) (hs : slots + 6 ≤ ms) :
    W p l e R s m args below meth c H locs cells slots (vx_MQ below Qc XC args s mc ms free) (F0 m pc ls rest) := by
  intro T hT X
  have htr : e.platform.stackTraces = false := (show e.platform.stackTraces = l.stackTraces by rw [X.admits.platform]).trans hl
  have Y := vx_rebase X (R' := { frames := R.frames, locals := R.locals, cells := 1, slots := 6 }) (Nat.le_refl _) (Nat.le_refl _) hRcells hRslots
  obtain ⟨s', hA⟩ : ∃ z, z = (T.setVm s.vm).setFrames (.invoking m args :: below) := ⟨_, rfl⟩
  rw [← hA] at Y
  have hvm : s'.vm = s.vm := by rw [hA]; rfl
  have hhp : s'.heap = H := by rw [hA]; exact hT
  have hW0 : s.WarmedH s'.vm := by rw [hvm]; exact State.WarmedH.refl s
  have hat' : ∀ w ∈ vx_at0 own ic cls names, w.before args s' = true := fun w hw => vx_ot_at hW0 hvm.symm (hgood w (List.mem_cons_of_mem _ (List.mem_cons_of_mem _ hw))) (hat w hw)
  have hk' : (Cond.classLink own ik cls).before args s' = true := vx_ot_at hW0 hvm.symm (hgood _ List.mem_cons_self) hk
  have hini' : (Cond.initialized cls).before args s' = true := vx_ot_at hW0 hvm.symm (hgood _ (List.mem_cons_of_mem _ List.mem_cons_self)) hini
  have hU' : vx_Zq Bundle.tN "UNASSIGNED_STACK" Bundle.steD A s' s'.heap := by rw [hhp]; exact vx_Zq.moved hW0.alike (hU.kept hS.2.1)
  have hN' : vx_Zq Bundle.tN "SUPPRESSED_SENTINEL" Bundle.listD A s' s'.heap := by rw [hhp]; exact vx_Zq.moved hW0.alike (hN.kept hS.2.1)
  have h : ∀ w ∈ Bundle.ownAtoms0 own ic cls names, w.before args s' = true := vx_own hat' (vx_isRefq hU'.1) (vx_isRefq hN'.1) hU'.2.word hN'.2.word
  have hown' : s'.vm.findClass own = some m.cls := by rw [hvm]; exact hown
  have hins : (Cond.instantiable cls 6).before args s' = true := h _ (by simp [Bundle.ownAtoms0])
  obtain ⟨vm₁, cX, kX, hfX, hkX, -, -, X₁, st1⟩ := Y.newCold hexec (own := own) (C := cls) (index := ik) (n := 6) hown' hk' hins hini'
    (g := F0 m pc ls rest) rfl (by rw [hb]; exact d0) (Nat.le_refl _) (Nat.le_refl _)
  generalize hT1 : (T.setVm vm₁).pushCell { cls := cX, slots := kX.instanceTypes.map defaultValue, vm := .none } = T1 at X₁ st1
  have hcat : (Value.ref T.heap.size).category = 1 := rfl
  have hcellA : T1.heap[T.heap.size]? = some (freshCell cX kX) := by rw [← hT1]; exact State.heap_pushCell_size _ _
  have d3' : decode c.code (pc + 3) = .ok (.dup, 1) := by rw [hb]; exact d3
  obtain ⟨U, hsteps, hrun, hend, hW, hsame, ce, hce, hO⟩ := X₁.ctorThrow0 hexec htr (own := own) (cls := cls) (names := names) (ic := ic) hown' hcls hnames h (fun x hx => nomatch hx) hfX hkX hcellA (by rw [hhp, hT]; exact Nat.le_refl _)
    (g := { method := m, pc := pc + 4, locals := ls, stack := .ref T.heap.size :: .ref T.heap.size :: rest, locked := none }) rfl hsize rfl rfl (rest := rest) rfl
    (by rw [hb]; exact d4) (by rw [hb]; exact d7) hout hRframes (by simp only [List.map_cons, List.sum_cons, hcat]; omega) hlocks
  obtain ⟨f1, f2⟩ := vx_frame hsame
  rw [hhp] at f1 f2
  have hWs : s.WarmedH U.vm := State.WarmedH.trans hW0 hW
  have hcl : s.vm.findClass cls = some ce.cls := by
    have h9 := hO.cls
    rw [hvm] at h9
    exact h9
  have hall : s.sameButNew ({ U with vm := s.vm } : State) locs mc ms := by
    subst hA
    obtain ⟨e1, e2⟩ := hsame
    rw [State.setFrames_setFrames] at e1
    have h2 : (T.setVm s.vm).sameButNew ({ U with vm := s.vm } : State) [] (0 + 1) (0 + 6) := ⟨e1, e2⟩
    have h3 := X.same.trans h2
    rw [List.append_nil] at h3
    exact h3.mono hc hs
  refine ⟨U, ?_, .threw T.heap.size, hrun, hend, Or.inr ⟨T.heap.size, rfl, cls, ce, locs, hx U hWs.alike f1 (fun q hq => f2 q hq (fun z hz => nomatch hz)), hce, hO.vm, hcl, hWs, hall, hf⟩⟩
  refine st1 _ ?_
  show Steps p.tables e below (T1.setTop { method := m, pc := pc + 3, locals := ls, stack := .ref T.heap.size :: rest, locked := none }) _
  jvm_step X₁.here [X₁.here.top, hexec, d3', Value.category]
  exact hsteps
/-- 'throw new E("text")': new; dup; ldc; invokespecial; athrow -/
theorem vx_throwS {cc : ByteArray} {pc : Nat} (hexec : p.tables.exec = Jvm.exec) (hb : c.code = cc) (hl : l.stackTraces = false) {own cls text : String} {names : List String} {ik is ic mc ms sa : Nat} {A : Nat → Prop}
    (hown : s.vm.findClass own = some m.cls) (hcls : Bundle.fit cls = true) (hnames : ∀ n ∈ names, Bundle.fit n = true)
    (hk : (Cond.classLink own ik cls).before args s = true) (hini : (Cond.initialized cls).before args s = true) (hstr : vk_R own is text sa s) (hat : ∀ w ∈ vx_atS own ic cls names, w.before args s = true)
    (hgood : ∀ w ∈ Cond.classLink own ik cls :: Cond.initialized cls :: vx_atS own ic cls names, vx_ot w = true)
    (hU : vx_Zq Bundle.tN "UNASSIGNED_STACK" Bundle.steD A s s.heap) (hN : vx_Zq Bundle.tN "SUPPRESSED_SENTINEL" Bundle.listD A s s.heap) (hS : va_S A s.heap H locs) (hsize : ls.size = c.maxLocals)
    (d0 : decode cc pc = .ok (.new ik, 3)) (d3 : decode cc (pc + 3) = .ok (.dup, 1)) (d4 : decode cc (pc + 4) = .ok (.ldc is, 2)) (d6 : decode cc (pc + 6) = .ok (.invokespecial ic, 3)) (d9 : decode cc (pc + 9) = .ok (.athrow, 1))
    (hout : ∀ x ∈ c.exceptionTable.toList, covers x (pc + 9) = false)
    (hRframes : names.length + 3 < R.frames) (hRlocals : (rest.map fun v => v.category).sum + (13 * (names.length + 1) + 43) ≤ R.locals) (hRcells : cells + 1 ≤ R.cells) (hRslots : slots + 6 ≤ R.slots) (hlocks : meth.locks = false)
    (hx : ∀ t : State, s.vm.Alike t.vm → H.size ≤ t.heap.size → (∀ q : Nat, q < H.size → t.heap[q]? = H[q]?) → XC cls s t)
    (hf : ∀ z ∈ locs, free z.base) (hc : cells + 1 ≤ mc) (hs : slots + 6 ≤ ms) :
    W p l e R s m args below meth c H locs cells slots (vx_MQ below Qc XC args s mc ms free) (F0 m pc ls rest) := by
  intro T hT X
  have htr : e.platform.stackTraces = false := (show e.platform.stackTraces = l.stackTraces by rw [X.admits.platform]).trans hl
  have Y := vx_rebase X (R' := { frames := R.frames, locals := R.locals, cells := 1, slots := 6 }) (Nat.le_refl _) (Nat.le_refl _) hRcells hRslots
  obtain ⟨s', hA⟩ : ∃ z, z = (T.setVm s.vm).setFrames (.invoking m args :: below) := ⟨_, rfl⟩
  rw [← hA] at Y
  have hvm : s'.vm = s.vm := by rw [hA]; rfl
  have hhp : s'.heap = H := by rw [hA]; exact hT
  have hW0 : s.WarmedH s'.vm := by rw [hvm]; exact State.WarmedH.refl s
  have hat' : ∀ w ∈ vx_atS own ic cls names, w.before args s' = true := fun w hw => vx_ot_at hW0 hvm.symm (hgood w (List.mem_cons_of_mem _ (List.mem_cons_of_mem _ hw))) (hat w hw)
  have hk' : (Cond.classLink own ik cls).before args s' = true := vx_ot_at hW0 hvm.symm (hgood _ List.mem_cons_self) hk
  have hini' : (Cond.initialized cls).before args s' = true := vx_ot_at hW0 hvm.symm (hgood _ (List.mem_cons_of_mem _ List.mem_cons_self)) hini
  have hU' : vx_Zq Bundle.tN "UNASSIGNED_STACK" Bundle.steD A s' s'.heap := by rw [hhp]; exact vx_Zq.moved hW0.alike (hU.kept hS.2.1)
  have hN' : vx_Zq Bundle.tN "SUPPRESSED_SENTINEL" Bundle.listD A s' s'.heap := by rw [hhp]; exact vx_Zq.moved hW0.alike (hN.kept hS.2.1)
  have h : ∀ w ∈ Bundle.ownAtoms own ic cls names, w.before args s' = true := vx_own hat' (vx_isRefq hU'.1) (vx_isRefq hN'.1) hU'.2.word hN'.2.word
  have hown' : s'.vm.findClass own = some m.cls := by rw [hvm]; exact hown
  have hins : (Cond.instantiable cls 6).before args s' = true := h _ (by simp [Bundle.ownAtoms])
  obtain ⟨vm₁, cX, kX, hfX, hkX, -, -, X₁, st1⟩ := Y.newCold hexec (own := own) (C := cls) (index := ik) (n := 6) hown' hk' hins hini'
    (g := F0 m pc ls rest) rfl (by rw [hb]; exact d0) (Nat.le_refl _) (Nat.le_refl _)
  generalize hT1 : (T.setVm vm₁).pushCell { cls := cX, slots := kX.instanceTypes.map defaultValue, vm := .none } = T1 at X₁ st1
  have hcat : (Value.ref T.heap.size).category = 1 := rfl
  have hcellA : T1.heap[T.heap.size]? = some (freshCell cX kX) := by rw [← hT1]; exact State.heap_pushCell_size _ _
  have d3' : decode c.code (pc + 3) = .ok (.dup, 1) := by rw [hb]; exact d3
  have d4' : decode c.code (pc + 4) = .ok (.ldc is, 2) := by rw [hb]; exact d4
  have hstr' : vk_R own is text sa s' := vk_R.warm hW0 hstr
  obtain ⟨U, hsteps, hrun, hend, hW, hsame, ce, hce, hO⟩ := X₁.ctorThrowS hexec htr (own := own) (cls := cls) (names := names) (ic := ic) hown' hcls hnames h (fun x hx => nomatch hx) hfX hkX hcellA (by rw [hhp, hT]; exact Nat.le_refl _) (msg := .ref sa) rfl
    (g := { method := m, pc := pc + 6, locals := ls, stack := .ref sa :: .ref T.heap.size :: .ref T.heap.size :: rest, locked := none }) rfl hsize rfl rfl (rest := rest) rfl
    (by rw [hb]; exact d6) (by rw [hb]; exact d9) hout hRframes (by simp only [List.map_cons, List.sum_cons, hcat]; omega) hlocks
  obtain ⟨f1, f2⟩ := vx_frame hsame
  rw [hhp] at f1 f2
  have hWs : s.WarmedH U.vm := State.WarmedH.trans hW0 hW
  have hcl : s.vm.findClass cls = some ce.cls := by
    have h9 := hO.cls
    rw [hvm] at h9
    exact h9
  have hall : s.sameButNew ({ U with vm := s.vm } : State) locs mc ms := by
    subst hA
    obtain ⟨e1, e2⟩ := hsame
    rw [State.setFrames_setFrames] at e1
    have h2 : (T.setVm s.vm).sameButNew ({ U with vm := s.vm } : State) [] (0 + 1) (0 + 6) := ⟨e1, e2⟩
    have h3 := X.same.trans h2
    rw [List.append_nil] at h3
    exact h3.mono hc hs
  refine ⟨U, ?_, .threw T.heap.size, hrun, hend, Or.inr ⟨T.heap.size, rfl, cls, ce, locs, hx U hWs.alike f1 (fun q hq => f2 q hq (fun z hz => nomatch hz)), hce, hO.vm, hcl, hWs, hall, hf⟩⟩
  refine st1 _ ?_
  show Steps p.tables e below (T1.setTop { method := m, pc := pc + 3, locals := ls, stack := .ref T.heap.size :: rest, locked := none }) _
  jvm_step X₁.here [X₁.here.top, hexec, d3', Value.category]
  exact X₁.ldcString hexec (own := own) (text := text) (index := is) (a := sa) hown' hstr'.1 hstr'.2
    (g := { method := m, pc := pc + 4, locals := ls, stack := .ref T.heap.size :: .ref T.heap.size :: rest, locked := none }) rfl d4' _ hsteps
/-- 'throw new E("text")', the text by a wide index -/
theorem vx_throwSW {cc : ByteArray} {pc : Nat} (hexec : p.tables.exec = Jvm.exec) (hb : c.code = cc) (hl : l.stackTraces = false) {own cls text : String} {names : List String} {ik is ic mc ms sa : Nat} {A : Nat → Prop}
    (hown : s.vm.findClass own = some m.cls) (hcls : Bundle.fit cls = true) (hnames : ∀ n ∈ names, Bundle.fit n = true)
    (hk : (Cond.classLink own ik cls).before args s = true) (hini : (Cond.initialized cls).before args s = true) (hstr : vk_R own is text sa s) (hat : ∀ w ∈ vx_atS own ic cls names, w.before args s = true)
    (hgood : ∀ w ∈ Cond.classLink own ik cls :: Cond.initialized cls :: vx_atS own ic cls names, vx_ot w = true)
    (hU : vx_Zq Bundle.tN "UNASSIGNED_STACK" Bundle.steD A s s.heap) (hN : vx_Zq Bundle.tN "SUPPRESSED_SENTINEL" Bundle.listD A s s.heap) (hS : va_S A s.heap H locs) (hsize : ls.size = c.maxLocals)
    (d0 : decode cc pc = .ok (.new ik, 3)) (d3 : decode cc (pc + 3) = .ok (.dup, 1)) (d4 : decode cc (pc + 4) = .ok (.ldc_w is, 3)) (d7 : decode cc (pc + 7) = .ok (.invokespecial ic, 3)) (d10 : decode cc (pc + 10) = .ok (.athrow, 1))
    (hout : ∀ x ∈ c.exceptionTable.toList, covers x (pc + 10) = false)
    (hRframes : names.length + 3 < R.frames) (hRlocals : (rest.map fun v => v.category).sum + (13 * (names.length + 1) + 43) ≤ R.locals) (hRcells : cells + 1 ≤ R.cells) (hRslots : slots + 6 ≤ R.slots) (hlocks : meth.locks = false)
    (hx : ∀ t : State, s.vm.Alike t.vm → H.size ≤ t.heap.size → (∀ q : Nat, q < H.size → t.heap[q]? = H[q]?) → XC cls s t)
    (hf : ∀ z ∈ locs, free z.base) (hc : cells + 1 ≤ mc) (hs : slots + 6 ≤ ms) :
    W p l e R s m args below meth c H locs cells slots (vx_MQ below Qc XC args s mc ms free) (F0 m pc ls rest) := by
  intro T hT X
  have htr : e.platform.stackTraces = false := (show e.platform.stackTraces = l.stackTraces by rw [X.admits.platform]).trans hl
  have Y := vx_rebase X (R' := { frames := R.frames, locals := R.locals, cells := 1, slots := 6 }) (Nat.le_refl _) (Nat.le_refl _) hRcells hRslots
  obtain ⟨s', hA⟩ : ∃ z, z = (T.setVm s.vm).setFrames (.invoking m args :: below) := ⟨_, rfl⟩
  rw [← hA] at Y
  have hvm : s'.vm = s.vm := by rw [hA]; rfl
  have hhp : s'.heap = H := by rw [hA]; exact hT
  have hW0 : s.WarmedH s'.vm := by rw [hvm]; exact State.WarmedH.refl s
  have hat' : ∀ w ∈ vx_atS own ic cls names, w.before args s' = true := fun w hw => vx_ot_at hW0 hvm.symm (hgood w (List.mem_cons_of_mem _ (List.mem_cons_of_mem _ hw))) (hat w hw)
  have hk' : (Cond.classLink own ik cls).before args s' = true := vx_ot_at hW0 hvm.symm (hgood _ List.mem_cons_self) hk
  have hini' : (Cond.initialized cls).before args s' = true := vx_ot_at hW0 hvm.symm (hgood _ (List.mem_cons_of_mem _ List.mem_cons_self)) hini
  have hU' : vx_Zq Bundle.tN "UNASSIGNED_STACK" Bundle.steD A s' s'.heap := by rw [hhp]; exact vx_Zq.moved hW0.alike (hU.kept hS.2.1)
  have hN' : vx_Zq Bundle.tN "SUPPRESSED_SENTINEL" Bundle.listD A s' s'.heap := by rw [hhp]; exact vx_Zq.moved hW0.alike (hN.kept hS.2.1)
  have h : ∀ w ∈ Bundle.ownAtoms own ic cls names, w.before args s' = true := vx_own hat' (vx_isRefq hU'.1) (vx_isRefq hN'.1) hU'.2.word hN'.2.word
  have hown' : s'.vm.findClass own = some m.cls := by rw [hvm]; exact hown
  have hins : (Cond.instantiable cls 6).before args s' = true := h _ (by simp [Bundle.ownAtoms])
  obtain ⟨vm₁, cX, kX, hfX, hkX, -, -, X₁, st1⟩ := Y.newCold hexec (own := own) (C := cls) (index := ik) (n := 6) hown' hk' hins hini'
    (g := F0 m pc ls rest) rfl (by rw [hb]; exact d0) (Nat.le_refl _) (Nat.le_refl _)
  generalize hT1 : (T.setVm vm₁).pushCell { cls := cX, slots := kX.instanceTypes.map defaultValue, vm := .none } = T1 at X₁ st1
  have hcat : (Value.ref T.heap.size).category = 1 := rfl
  have hcellA : T1.heap[T.heap.size]? = some (freshCell cX kX) := by rw [← hT1]; exact State.heap_pushCell_size _ _
  have d3' : decode c.code (pc + 3) = .ok (.dup, 1) := by rw [hb]; exact d3
  have d4' : decode c.code (pc + 4) = .ok (.ldc_w is, 3) := by rw [hb]; exact d4
  have hstr' : vk_R own is text sa s' := vk_R.warm hW0 hstr
  obtain ⟨U, hsteps, hrun, hend, hW, hsame, ce, hce, hO⟩ := X₁.ctorThrowS hexec htr (own := own) (cls := cls) (names := names) (ic := ic) hown' hcls hnames h (fun x hx => nomatch hx) hfX hkX hcellA (by rw [hhp, hT]; exact Nat.le_refl _) (msg := .ref sa) rfl
    (g := { method := m, pc := pc + 7, locals := ls, stack := .ref sa :: .ref T.heap.size :: .ref T.heap.size :: rest, locked := none }) rfl hsize rfl rfl (rest := rest) rfl
    (by rw [hb]; exact d7) (by rw [hb]; exact d10) hout hRframes (by simp only [List.map_cons, List.sum_cons, hcat]; omega) hlocks
  obtain ⟨f1, f2⟩ := vx_frame hsame
  rw [hhp] at f1 f2
  have hWs : s.WarmedH U.vm := State.WarmedH.trans hW0 hW
  have hcl : s.vm.findClass cls = some ce.cls := by
    have h9 := hO.cls
    rw [hvm] at h9
    exact h9
  have hall : s.sameButNew ({ U with vm := s.vm } : State) locs mc ms := by
    subst hA
    obtain ⟨e1, e2⟩ := hsame
    rw [State.setFrames_setFrames] at e1
    have h2 : (T.setVm s.vm).sameButNew ({ U with vm := s.vm } : State) [] (0 + 1) (0 + 6) := ⟨e1, e2⟩
    have h3 := X.same.trans h2
    rw [List.append_nil] at h3
    exact h3.mono hc hs
  refine ⟨U, ?_, .threw T.heap.size, hrun, hend, Or.inr ⟨T.heap.size, rfl, cls, ce, locs, hx U hWs.alike f1 (fun q hq => f2 q hq (fun z hz => nomatch hz)), hce, hO.vm, hcl, hWs, hall, hf⟩⟩
  refine st1 _ ?_
  show Steps p.tables e below (T1.setTop { method := m, pc := pc + 3, locals := ls, stack := .ref T.heap.size :: rest, locked := none }) _
  jvm_step X₁.here [X₁.here.top, hexec, d3', Value.category]
  exact X₁.ldcStringW hexec (own := own) (text := text) (index := is) (a := sa) hown' hstr'.1 hstr'.2
    (g := { method := m, pc := pc + 4, locals := ls, stack := .ref T.heap.size :: .ref T.heap.size :: rest, locked := none }) rfl d4' _ hsteps
end Ends
section Bodies
variable {l : Launch}
theorem vx_ofW {y : MethodName} {ws ws' : List Cond} {rm : Room} {Pc : Array Value → State → Prop} {Qc : Array Value → State → Outcome → State → Prop} {XC : String → State → State → Prop} {mc ms : Nat} {free : Addr → Prop} {cc : ByteArray} {maxL : Nat} {ret : Option FieldType}
    (hy : plainName y.cls = true) (hw : ws = Cond.code y cc maxL ret :: ws')
    (body : ∀ p e s m args below meth c s₁, BodyLoose p l y (headSpec ws rm) cc maxL ret e s m args below meth c s₁ → c.maxLocals = maxL → (∀ x ∈ c.exceptionTable.toList, False) → Pc args s →
      W p l e (headSpec ws rm).room s m args below meth c s.heap [] 0 0 (vx_MQ below Qc XC args s mc ms free) (entryFrame m args maxL)) : vx_Met l y ws rm Pc Qc XC mc ms free := by
  refine MetFree.of_bodyS (code := cc) (maxLocals := maxL) (ret := ret) hy ?_ ?_
  · intro args s m h hn
    obtain ⟨meth, c, h1, h2, h3, h4, h5, h6, -, -⟩ := Cond.code_spec hn (atoms_spec (ws := ws) h _ (by rw [hw]; exact List.mem_cons_self))
    exact ⟨meth, c, h1, h2, h3, h4, h5, h6⟩
  · intro p e s m args below meth c s₁ B hml hP _
    have hh0 : s₁.heap = s.heap := by rw [B.state]; rfl
    have ht : ∀ x ∈ c.exceptionTable.toList, False := by
      obtain ⟨meth9, c9, h1, h2, -, -, -, -, h7, -⟩ := Cond.code_spec B.named (atoms_spec (ws := ws) B.pre _ (by rw [hw]; exact List.mem_cons_self))
      cases Option.some.inj (h1.symm.trans B.method)
      cases Option.some.inj (h2.symm.trans (Stand.of_body B).code)
      intro x hx
      rw [Array.isEmpty_iff.mp h7] at hx
      cases hx
    obtain ⟨t, a1, o, b1, b2, b3⟩ := body p e s m args below meth c s₁ B hml ht hP s₁ hh0 (Stand.of_body B)
    exact ⟨t, o, a1, b1, b2, b3⟩
/-- the table of a body with handlers -/
theorem vx_table {p : Program} {x y : MethodName} {S : Spec} {cc bytes : ByteArray} {maxL maxL' : Nat} {ret ret' : Option FieldType} {e : Env} {s s₁ : State} {m : MethodId} {args : Array Value} {below : List Frame} {meth : Method} {c : Code} {hh : List (Nat × Nat × Nat × Nat)}
    (B : BodyLoose p l y S cc maxL ret e s m args below meth c s₁) (h : (Cond.codeWith y bytes maxL' ret' hh).before args s = true) : c.exceptionTable.toList = tableOf hh := by
  obtain ⟨m9, meth9, c9, hn9, h1, h2, -, -, h6, -⟩ := Cond.codeWith_spec h
  cases Option.some.inj (hn9.symm.trans B.named)
  cases Option.some.inj (h1.symm.trans B.method)
  cases Option.some.inj (h2.symm.trans (Stand.of_body B).code)
  rw [← h6, table_eq]
end Bodies
end VXA
/-! ===== END ===== -/
/-! ===== BEGIN a static call of a method with an exception table ===== -/
section VXS
variable {p : Program} {l : Launch} {e : Env} {R : Room} {s : State} {m : MethodId} {args : Array Value} {below : List Frame} {meth : Method} {c : Code} {T : State} {H : Heap} {locs : List Loc} {cells slots : Nat}
abbrev vx_CSW (R : Room) (s : State) (args : Array Value) (own : String) (index : Nat) (y : MethodName) (bytes : ByteArray) (maxL : Nat) (ret : Option FieldType) (hh : List (Nat × Nat × Nat × Nat)) (ws : List Cond) (rm : Room) (mc ms n : Nat) : Prop :=
  (rm.cells = mc ∧ rm.slots = ms ∧ rm.frames + 1 ≤ R.frames ∧ 8 + (maxL + 11) + rm.locals ≤ R.locals ∧ (∀ w ∈ ws, ∀ (a' : Array Value) (U : State), s.WarmedH U.vm → w.before a' U = true) ∧ Cond.codeWith y bytes maxL ret hh ∈ ws) ∧
  (Cond.codeWith y bytes maxL ret hh).before args s = true ∧ (Cond.initialized y.cls).before args s = true ∧ (y.cls ≠ "java/lang/invoke/MethodHandle" ∧ y.cls ≠ "java/lang/invoke/VarHandle") ∧
  (∀ sig, parseMethodDescriptor y.desc = some sig → n = sig.parameters.length) ∧ (Cond.methodLink own index y).before args s = true ∧ (Cond.static y).before args s = true
theorem vx_cwSW {own : String} {index maxL mc ms : Nat} {y : MethodName} {bytes : ByteArray} {ret : Option FieldType} {hh : List (Nat × Nat × Nat × Nat)} {Ts ws ws' : List Cond} {rm : Room} (n : Nat) (ht : ∀ w ∈ Ts, w.before args s = true) (hT : GoodIn Ts (va_wsS own index y ws)) (hw : ws = Cond.codeWith y bytes maxL ret hh :: ws') (hrc : rm.cells = mc) (hrs : rm.slots = ms)
    (hd : y.cls ≠ "java/lang/invoke/MethodHandle" ∧ y.cls ≠ "java/lang/invoke/VarHandle" ∧ (parseMethodDescriptor y.desc).map (fun d => d.parameters.length) = some n) (hR : rm.frames + 1 ≤ R.frames ∧ 8 + (maxL + 11) + rm.locals ≤ R.locals) :
    vx_CSW R s args own index y bytes maxL ret hh ws rm mc ms n := by
  have ok : ∀ w ∈ va_wsS own index y ws, w.before args s = true := fun w h => ht w (hT w h).1
  have hG : GoodIn Ts ws := fun w h => hT w (by unfold va_wsS; exact List.mem_append_right _ h)
  have hc : Cond.codeWith y bytes maxL ret hh ∈ ws := by rw [hw]; exact List.mem_cons_self
  refine ⟨⟨hrc, hrs, hR.1, hR.2, pay_in ht hG, hc⟩, ht _ (hG _ hc).1, ok _ (by simp [va_wsS]), ⟨hd.1, hd.2.1⟩, fun sig h => ?_, ok _ (by simp [va_wsS]), ok _ (by simp [va_wsS])⟩
  have h2 := hd.2.2
  rw [h] at h2
  exact (Option.some.inj h2).symm
theorem vx_callSW (X : Stand p l e R s m args below meth c T locs cells slots) (hexec : p.tables.exec = Jvm.exec) {own : String} {index : Nat} {y : MethodName} {bytes : ByteArray} {maxL : Nat} {ret : Option FieldType} {hh : List (Nat × Nat × Nat × Nat)}
    (hown : s.vm.findClass own = some m.cls) (hlink : (Cond.methodLink own index y).before args s = true) (hstat : (Cond.static y).before args s = true) (hinit : (Cond.initialized y.cls).before args s = true)
    (hcode : (Cond.codeWith y bytes maxL ret hh).before args s = true) (hy : y.cls ≠ "java/lang/invoke/MethodHandle" ∧ y.cls ≠ "java/lang/invoke/VarHandle")
    {W9 : Nat} {Pre : Pt → Array Value → Prop} {Post : Pt → Array Value → Option Value → Pt → Prop} (hK : Back l R p e below s args y 3 W9 Pre Post)
    {g : JFrame} (hg : g.method = m) (hsize : g.locals.size = c.maxLocals) {argsL rest : List Value} (hlen : ∀ sig, parseMethodDescriptor y.desc = some sig → argsL.length = sig.parameters.length)
    (hstack : g.stack = argsL.reverse ++ rest) (hW : 2 * g.monitorRoom + (rest.map fun v => v.category).sum ≤ W9) (hdg : decode c.code g.pc = .ok (.invokestatic index, 3))
    (hpre : ∀ vm₁, s.WarmedH vm₁ → Pre ⟨T.setVm vm₁, locs, cells, slots⟩ argsL.toArray) :
    ∃ (v : Option Value) (vm₁ : Vm) (B : Pt), s.WarmedH vm₁ ∧ Stand p l e R s m args below meth c B.U B.locs B.cells B.slots ∧ Post ⟨T.setVm vm₁, locs, cells, slots⟩ argsL.toArray v B ∧
      ∀ target, Steps p.tables e below (B.U.setTop { g with pc := g.pc + 3, stack := v.toList ++ rest }) target → Steps p.tables e below (T.setTop g) target := by
  obtain ⟨mk, methM, cM, hnamed, hmethM, -, -, -, -, -, -, hsigM⟩ := Cond.codeWith_spec hcode
  have hstatic : methM.isStatic = true := Cond.static_spec hnamed hmethM hstat
  obtain ⟨kP, hkP, -⟩ := className_of_methodNamed hnamed
  have hinitP : kP.init = .initialized := Cond.initialized_spec (findClass_of_methodNamed hnamed) hkP hinit
  obtain ⟨vm₁, X₁, hstep₁⟩ := X.invokestatic hexec hown hlink hnamed hmethM hstatic hkP hinitP hy (g := g) hg (argsL := argsL) (rest := rest) (hlen _ hsigM) hstack hdg
  obtain ⟨v, B, X', hpost, hsteps⟩ := hK m meth c ⟨T.setVm vm₁, locs, cells, slots⟩ { g with stack := rest } (.invokestatic index) mk argsL.toArray X₁ hg hsize hdg hW (X₁.named hnamed) (hpre vm₁ X₁.warmed)
  exact ⟨v, vm₁, B, X₁.warmed, X', hpost, fun target h => hstep₁ _ fun acts => by rw [doInvoke_state]; exact hsteps.trans h⟩
theorem vx_runSW {y : MethodName} {bytes cc : ByteArray} {maxL nL mc ms n index : Nat} {ret : Option FieldType} {hh : List (Nat × Nat × Nat × Nat)} {ws : List Cond} {rm : Room} {Pc : Array Value → State → Prop} {Qc : Array Value → State → Outcome → State → Prop} {free : Addr → Prop} {Ts : List Cond} {own : String} {As rest : List Value} {g : JFrame}
    (S : CallFix p m c cc nL s args Ts own) (hM : Met l y ws rm Pc Qc mc ms free) (cw : vx_CSW R s args own index y bytes maxL ret hh ws rm mc ms n) (hp : PreS s H Pc As)
    (hg : g.method = m) (hn : As.length = n) (hsize : g.locals.size = nL) (hstack : g.stack = As.reverse ++ rest) (hW : 2 * g.monitorRoom + (rest.map fun v => v.category).sum ≤ 8) (hdg : decode cc g.pc = .ok (.invokestatic index, 3)) (hf : cells + mc ≤ R.cells ∧ slots + ms ≤ R.slots) :
    va_Run p l e R s m args below meth c H locs cells slots mc ms g rest (Qc As.toArray) (free) := by
  obtain ⟨⟨hrc, hrs, hfr, hlo, hws, hcw⟩, hcode, hini, hy, hlen, hl, hstt⟩ := cw
  have hK : Back l R p e below s args y 3 8 (PreOf R mc ms Pc) (PostOf Qc mc ms free) := va_backW (hh := hh) (bytes := bytes) (maxL := maxL) (ret := ret) hM hp.1 hrc hrs hfr hlo hws hcw (fun a' U hW => word_at hW (Or.inl (by first | rfl | simp [Cond.onTables, Cond.keeps, Cond.steady])) hini)
  obtain ⟨hx, hb, hml, ho, -⟩ := S
  intro T hT X
  obtain ⟨v, vm₁, ⟨U', l2, c2, s2⟩, hW₁, X', ⟨g', mk, t, L, e1, e2, hq, h1, hL, h2, h3⟩, st⟩ := vx_callSW X hx (hh := hh) (bytes := bytes) (maxL := maxL) (ret := ret) ho hl hstt hini hcode hy hK hg (hsize.trans hml.symm) (argsL := As) (rest := rest) (fun sig h => hn.trans (hlen sig h)) hstack hW (by rw [hb]; exact hdg)
    (fun vm₁ hW₁ => ⟨hf.1, hf.2, hp.2 (T.setVm vm₁) hT hW₁⟩)
  dsimp only [Pt.U, Pt.locs, Pt.cells, Pt.slots] at X' e1 e2 h1 h2 h3 st
  subst h1; subst h2; subst h3
  exact ⟨v, (T.setVm vm₁).calling g' mk As.toArray, t, U', L, hT, X', hL, e1, e2, hq, st⟩
/-- not caught here, past rows that name other classes: it goes on to the caller -/
theorem vx_outP {p : Program} {l : Launch} {e : Env} {R : Room} {s : State} {m : MethodId} {args : Array Value} {below : List Frame} {meth : Method} {c : Code} {H : Heap} {locs : List Loc} {cells slots : Nat} {free : Addr → Prop} {ls : Array Slot} {rest : List Value} {Qc : Array Value → State → Outcome → State → Prop} {XC : String → State → State → Prop}
    {pc : Nat} {own E : String} {ce : Cell} {q : Addr} {mc ms : Nat} (hown : s.vm.findClass own = some m.cls) (hlocks : meth.locks = false)
    (hpass : ∀ z ∈ c.exceptionTable.toList, covers z pc = false ∨ (z.catchType ≠ 0 ∧ ∃ nm : String, (Cond.classLink own z.catchType nm).before args s = true ∧ va_Nc E nm s)) (hcell : H[q]? = some ce) (hv : ce.vm = .none) (hcl : s.vm.findClass E = some ce.cls)
    (hx : ∀ t : State, t.heap = H → s.vm.Alike t.vm → XC E s t) (hf : ∀ z ∈ locs, free z.base) (hc : cells ≤ mc) (hs : slots ≤ ms) :
    vx_W p l e R s m args below meth c H locs cells slots (vx_MQ below Qc XC args s mc ms free) (F0 m pc ls rest) q := by
  intro T hT X
  have hpl : e.platform.magicAccessors = ({} : Platform).magicAccessors := by rw [X.admits.platform]
  obtain ⟨vm', hW', X', st⟩ := X.outThrough hlocks q (g := F0 m pc ls rest) rfl rfl rfl (cell := ce) (by rw [hT]; exact hcell) (by rw [hv]; rfl)
    (by obtain ⟨k9, h9, -⟩ := Vm.findClass_spec hcl; exact ⟨k9, h9⟩) (fun z hz => by
      rcases hpass z hz with h | ⟨hz0, nm, hl1, hn1⟩
      · exact Or.inl h
      · obtain ⟨c6, hc6, hcl6⟩ := Cond.classLink_spec hown hl1 e.platform hpl
        obtain ⟨a8, b8, h1, h2, h3⟩ := hn1
        cases Option.some.inj (h1.symm.trans hcl)
        cases Option.some.inj (h2.symm.trans hc6)
        exact Or.inr ⟨hz0, _, hcl6, h3⟩)
  obtain ⟨g₀, hfr⟩ := X'.frames_eq
  have hcell9 : ((T.setVm vm').setFrames (.throwing q :: below)).heap[q]? = some ce := by
    show T.heap[q]? = some ce
    rw [hT]; exact hcell
  have hend : Ended ((T.setVm vm').setFrames (.throwing q :: below)) below (.threw q) := State.frames_setFrames _ (State.cur_lt_of_frames hfr)
  refine ⟨(T.setVm vm').setFrames (.throwing q :: below), ?_, .threw q, X'.here.running, hend, Or.inr ⟨q, rfl, E, ce, locs, hx _ hT (X'.ends _).1.alike, hcell9, hv, hcl, (X'.ends _).1, (X'.ends _).2.mono hc hs, hf⟩⟩
  rw [X.pushThrowing_eq]
  exact st
/-- a thing of a world lies in the heap -/
theorem vx_lt {D : va_G} {cl : List vw_C} {ws : va_W} {H1 : Heap} (h : va_P D cl ws H1) {k : Nat} {q : Nat × va_E} (hk : ws[k]? = some q) : q.1 < H1.size := (h k q hk).lt
end VXS
/-! ===== END ===== -/
/-! ===== BEGIN methods with a table of their own: called by a name, returning or throwing ===== -/
section VXH
/-! vx_backW, vx_callVX, vx_callSX, vx_callVW, vx_runVW, vx_runVX, vx_runSX, vx_ofWH follow the same proofs as their sisters above (Free/Laws.lean, Shelf42/LK1.lean); vx_outP calls Shelf42/NT130.lean (outThrough). -/
section
variable {l : Launch} {R : Room} {p : Program} {e : Env} {below : List Frame} {s : State} {sargs : Array Value} {y : MethodName} {len W9 : Nat}
theorem vx_backW {ws : List Cond} {rm : Room} {Pc : Array Value → State → Prop} {Qc : Array Value → State → Outcome → State → Prop} {XC : String → State → State → Prop} {mc ms : Nat} {free : Addr → Prop} {bytes : ByteArray} {maxL : Nat} {ret : Option FieldType} {hh : List (Nat × Nat × Nat × Nat)}
    (hM : vx_Met l y ws rm Pc Qc XC mc ms free) (hblind : FrameBlind Pc) (hrc : rm.cells = mc) (hrs : rm.slots = ms)
    (hframes : rm.frames + 1 ≤ R.frames) (hlocals : W9 + (maxL + 11) + rm.locals ≤ R.locals)
    (hws : ∀ w ∈ ws, ∀ a' U, s.WarmedH U.vm → w.before a' U = true) (hcode : Cond.codeWith y bytes maxL ret hh ∈ ws) (hinit : ∀ a' U, s.WarmedH U.vm → (Cond.initialized y.cls).before a' U = true) :
    vx_Back l R p e below s sargs y len W9 (PreOf R mc ms Pc) (PostOf Qc mc ms free) (vx_Post XC mc ms free) := by
  intro m meth c A g ig mk a X hg hsize hdg hW hn hp
  have h1 : (headSpec ws rm).pre.before a A.U = true := atoms_intro fun w hw => hws w hw _ _ X.warmed
  have h2 : (Cond.codeWith y bytes maxL ret hh).before a A.U = true := hws _ hcode _ _ X.warmed
  have h3 : (Cond.initialized y.cls).before a A.U = true := hinit _ _ X.warmed
  have h4 : A.cells + (headSpec ws rm).room.cells ≤ R.cells := by rw [show (headSpec ws rm).room.cells = mc from hrc]; exact hp.1
  have h5 : A.slots + (headSpec ws rm).room.slots ≤ R.slots := by rw [show (headSpec ws rm).room.slots = ms from hrs]; exact hp.2.1
  have hPc : Pc a (A.U.calling g mk a) := hblind _ _ _ _ hp.2.2
  obtain ⟨U, Ls, c0, s0⟩ := A
  dsimp only [Pt.U, Pt.locs, Pt.cells, Pt.slots] at h1 h2 h3 h4 h5 X hn hPc ⊢
  obtain ⟨m9, methY, cY, hn9, hmY, hcY, -, hlY, -⟩ := Cond.codeWith_spec h2
  cases Option.some.inj (hn9.symm.trans hn)
  obtain ⟨kY, hkY, -⟩ := className_of_methodNamed hn
  have hinitY : kY.init = .initialized := Cond.initialized_spec (findClass_of_methodNamed hn) hkY h3
  have h : At U g.method c below := by rw [hg]; exact X.here
  have hlocals9 : W9 + (maxL + 11) + (headSpec ws rm).room.locals ≤ R.locals := hlocals
  have happ : (headSpec ws rm).appliesLoose y e.platform (U.calling g mk a) = true :=
    Spec.appliesLoose_calling (g := g) h hdg hn hkY hinitY
      (X.room_calling (g := g) (R' := (headSpec ws rm).room) hsize hmY hcY hframes (by rw [hlY]; omega) h4 h5) h1
  obtain ⟨mid, hmid⟩ := h.above
  have hfr : (U.setTop g).frames = (.java g :: mid) ++ below := by rw [State.frames_setTop' g h.top, hmid]; rfl
  obtain ⟨o, s₂, hsteps, -, hend, hq⟩ := Steps.callFree hM p X.admits X.cas X.clock (acts := []) hfr happ hPc trivial
  have hq' : vx_Q Qc XC mc ms free a (U.calling g mk a) o s₂ := hq
  rw [State.frames_setTop' g h.top] at hend
  obtain ⟨g₀, hg0⟩ := Option.isSome_iff_exists.mp h.top
  obtain ⟨r, hr⟩ := State.topJava?_eq_some.mp hg0
  have hr' : (({ U with heap := s₂.heap, slotsUsed := s₂.slotsUsed } : State).setVm s₂.vm).frames = .java g₀ :: r := hr
  rcases hq' with ⟨hqc, L, hfe, hL⟩ | ⟨q, rfl, E, ce, L, hx, hce, hcv, hcl, hW₂, hsm, hL⟩
  · obtain ⟨⟨v, rfl⟩, hW₂, e2, q2, q3, q4, q5, q6⟩ := id hfe
    have e3 : s₂ = ({ (U.calling g mk a).setFrames s₂.frames with heap := s₂.heap, slotsUsed := s₂.slotsUsed } : State).setVm s₂.vm := by
      have : s₂ = ({ s₂ with vm := (U.calling g mk a).vm } : State).setVm s₂.vm := rfl
      rw [e2] at this
      exact this
    obtain ⟨c₂, i₂, len₂, hc₂, hd₂, hf₂⟩ := hend
    have hW' : U.WarmedH s₂.vm := hW₂
    have hcc : c₂ = c := by
      have h1 : s₂.code? g.method = U.code? g.method := by
        rw [State.code?_eq, State.code?_eq, hW'.alike.method?]
      exact Option.some.inj (hc₂.symm.trans (h1.trans h.code))
    subst hcc
    have hlen : len₂ = len := by rw [hdg] at hd₂; cases hd₂; rfl
    subst hlen
    have hs₂ : s₂ = (({ U with heap := s₂.heap, slotsUsed := s₂.slotsUsed } : State).setVm s₂.vm).setTop { g with pc := g.pc + len₂, stack := v.toList ++ g.stack } := by
      refine e3.trans ?_
      rw [hf₂, State.calling_eq h.top, State.setFrames_setFrames, State.setTop_of_frames _ hr', hr]
      rfl
    have hsame : U.sameButNew ({ U with heap := s₂.heap, slotsUsed := s₂.slotsUsed } : State) L mc ms := by
      refine ⟨?_, q2, q3, q4, q5, q6⟩
      obtain ⟨t, ht, -⟩ := State.frames_cons hr
      show ({ U with heap := s₂.heap, slotsUsed := s₂.slotsUsed } : State) = { U.setFrames U.frames with heap := s₂.heap, slotsUsed := s₂.slotsUsed }
      rw [State.setFrames_self ht]
    subst hg
    refine Or.inl ⟨v, ⟨(({ U with heap := s₂.heap, slotsUsed := s₂.slotsUsed } : State).setVm s₂.vm), Ls ++ L, c0 + mc, s0 + ms⟩,
      ⟨X.admits, X.cas, X.clock, X.frames, X.room, X.hears, X.method, X.code, (X.here.setHeapUsed s₂.heap s₂.slotsUsed).setVm hW'.alike, X.tail, State.WarmedH.trans X.warmed hW', X.limits, X.bytes, X.same.trans (hsame.setVm s.vm)⟩,
      ⟨g, mk, s₂, L, rfl, rfl, hqc, rfl, hL, rfl, rfl⟩, ?_⟩
    show Steps p.tables e below _ ((({ U with heap := s₂.heap, slotsUsed := s₂.slotsUsed } : State).setVm s₂.vm).setTop { g with pc := g.pc + len₂, stack := v.toList ++ g.stack })
    rw [← hs₂]
    exact hsteps
  · obtain ⟨e2, q2, q3, q4, q5, q6⟩ := id hsm
    have e3 : s₂ = ({ (U.calling g mk a).setFrames s₂.frames with heap := s₂.heap, slotsUsed := s₂.slotsUsed } : State).setVm s₂.vm := by
      have : s₂ = ({ s₂ with vm := (U.calling g mk a).vm } : State).setVm s₂.vm := rfl
      rw [e2] at this
      exact this
    have hf₂ : s₂.frames = .throwing q :: .java g :: U.frames.tail := hend
    have hW' : U.WarmedH s₂.vm := hW₂
    have hs₂ : s₂ = ((({ U with heap := s₂.heap, slotsUsed := s₂.slotsUsed } : State).setVm s₂.vm).setTop g).pushFrame (.throwing q) := by
      refine e3.trans ?_
      rw [hf₂, State.calling_eq h.top, State.setFrames_setFrames, State.pushFrame, State.frames_setTop _ hr', State.setTop_of_frames _ hr', State.setFrames_setFrames, hr]
      rfl
    have hsame : U.sameButNew ({ U with heap := s₂.heap, slotsUsed := s₂.slotsUsed } : State) L mc ms := by
      refine ⟨?_, q2, q3, q4, q5, q6⟩
      obtain ⟨t, ht, -⟩ := State.frames_cons hr
      show ({ U with heap := s₂.heap, slotsUsed := s₂.slotsUsed } : State) = { U.setFrames U.frames with heap := s₂.heap, slotsUsed := s₂.slotsUsed }
      rw [State.setFrames_self ht]
    subst hg
    refine Or.inr ⟨q, ⟨(({ U with heap := s₂.heap, slotsUsed := s₂.slotsUsed } : State).setVm s₂.vm), Ls ++ L, c0 + mc, s0 + ms⟩,
      ⟨X.admits, X.cas, X.clock, X.frames, X.room, X.hears, X.method, X.code, (X.here.setHeapUsed s₂.heap s₂.slotsUsed).setVm hW'.alike, X.tail, State.WarmedH.trans X.warmed hW', X.limits, X.bytes, X.same.trans (hsame.setVm s.vm)⟩,
      ⟨g, mk, s₂, L, E, ce, rfl, rfl, hx, hce, hcv, hcl, rfl, hL, rfl, rfl⟩, ?_⟩
    show Steps p.tables e below _ (((({ U with heap := s₂.heap, slotsUsed := s₂.slotsUsed } : State).setVm s₂.vm).setTop g).pushFrame (.throwing q))
    rw [← hs₂]
    exact hsteps
end
variable {p : Program} {l : Launch} {e : Env} {R : Room} {s : State} {m : MethodId} {args : Array Value} {below : List Frame} {meth : Method} {c : Code} {T : State} {H : Heap} {locs : List Loc} {cells slots : Nat}
theorem vx_callVX (X : Stand p l e R s m args below meth c T locs cells slots) (hexec : p.tables.exec = Jvm.exec) {own C : String} {index : Nat} {y : MethodName} {bytes : ByteArray} {maxL : Nat} {ret : Option FieldType} {hh : List (Nat × Nat × Nat × Nat)}
    (hown : s.vm.findClass own = some m.cls) (hlink : (Cond.methodLink own index y).before args s = true) (hinst : (Cond.instanceMethod y).before args s = true) (hsel : (Cond.selects C y y).before args s = true)
    (hcode : (Cond.codeWith y bytes maxL ret hh).before args s = true) (hy : y.cls ≠ "java/lang/invoke/MethodHandle" ∧ y.cls ≠ "java/lang/invoke/VarHandle")
    {W9 : Nat} {Pre : Pt → Array Value → Prop} {Post : Pt → Array Value → Option Value → Pt → Prop} {PostX : Pt → Array Value → Addr → Pt → Prop} (hK : vx_Back l R p e below s args y 3 W9 Pre Post PostX)
    {b : Addr} {cellB : Cell} (hcell : T.heap[b]? = some cellB) (hobj : cellB.vm.isStatics = false) (hcls : s.vm.findClass C = some cellB.cls)
    {g : JFrame} (hg : g.method = m) (hsize : g.locals.size = c.maxLocals) {argsL rest : List Value} (hlen : ∀ sig, parseMethodDescriptor y.desc = some sig → argsL.length = sig.parameters.length)
    (hstack : g.stack = argsL.reverse ++ .ref b :: rest) (hW : 2 * g.monitorRoom + (rest.map fun v => v.category).sum ≤ W9) (hdg : decode c.code g.pc = .ok (.invokevirtual index, 3))
    (hpre : ∀ vm₁, s.WarmedH vm₁ → Pre ⟨T.setVm vm₁, locs, cells, slots⟩ (Value.ref b :: argsL).toArray) :
    (∃ (v : Option Value) (vm₁ : Vm) (B : Pt), s.WarmedH vm₁ ∧ Stand p l e R s m args below meth c B.U B.locs B.cells B.slots ∧ Post ⟨T.setVm vm₁, locs, cells, slots⟩ (Value.ref b :: argsL).toArray v B ∧
      ∀ target, Steps p.tables e below (B.U.setTop { g with pc := g.pc + 3, stack := v.toList ++ rest }) target → Steps p.tables e below (T.setTop g) target) ∨
    (∃ (q : Addr) (vm₁ : Vm) (B : Pt), s.WarmedH vm₁ ∧ Stand p l e R s m args below meth c B.U B.locs B.cells B.slots ∧ PostX ⟨T.setVm vm₁, locs, cells, slots⟩ (Value.ref b :: argsL).toArray q B ∧
      Steps p.tables e below (T.setTop g) ((B.U.setTop { g with stack := rest }).pushFrame (.throwing q))) := by
  obtain ⟨mk, methM, hnamed, hmethM, hstM, habM⟩ := Cond.instanceMethod_spec hinst
  obtain ⟨m8, methM', cM, hn8, hmethM', -, -, -, -, -, -, hsigM⟩ := Cond.codeWith_spec hcode
  cases Option.some.inj (hn8.symm.trans hnamed)
  cases hmethM.symm.trans hmethM'
  obtain ⟨c2, r2, m2, q1, q2, q3, q4, kP, hkP, hkPi⟩ := Cond.selects_spec hsel
  cases hcls.symm.trans q1
  cases (State.methodFound?_of_named hnamed hy).symm.trans q2
  cases hnamed.symm.trans q3
  have hselP : selectMethod e.platform s.vm cellB.cls mk = .method mk := by rw [Launch.admits_selectMethod X.admits]; exact q4
  obtain ⟨vm₁, X₁, hstep₁⟩ := X.invokevirtual hexec hown hlink hnamed hmethM hstM hkP hkPi hy (a := b) (cell := cellB) hcell
    (fun z h => by rw [h] at hobj; cases hobj) hselP hmethM habM hkP hkPi (g := g) hg (argsL := argsL) (rest := rest) (hlen _ hsigM) hstack hdg
  rcases hK m meth c ⟨T.setVm vm₁, locs, cells, slots⟩ { g with stack := rest } (.invokevirtual index) mk (Value.ref b :: argsL).toArray X₁ hg hsize hdg hW (X₁.named hnamed) (hpre vm₁ X₁.warmed) with ⟨v, B, X', hpost, hsteps⟩ | ⟨q, B, X', hpost, hsteps⟩
  · exact Or.inl ⟨v, vm₁, B, X₁.warmed, X', hpost, fun target h => hstep₁ _ fun acts => by rw [doInvoke_state]; exact hsteps.trans h⟩
  · exact Or.inr ⟨q, vm₁, B, X₁.warmed, X', hpost, hstep₁ _ fun acts => by rw [doInvoke_state]; exact hsteps⟩
theorem vx_callSX (X : Stand p l e R s m args below meth c T locs cells slots) (hexec : p.tables.exec = Jvm.exec) {own : String} {index : Nat} {y : MethodName} {bytes : ByteArray} {maxL : Nat} {ret : Option FieldType} {hh : List (Nat × Nat × Nat × Nat)}
    (hown : s.vm.findClass own = some m.cls) (hlink : (Cond.methodLink own index y).before args s = true) (hstat : (Cond.static y).before args s = true) (hinit : (Cond.initialized y.cls).before args s = true)
    (hcode : (Cond.codeWith y bytes maxL ret hh).before args s = true) (hy : y.cls ≠ "java/lang/invoke/MethodHandle" ∧ y.cls ≠ "java/lang/invoke/VarHandle")
    {W9 : Nat} {Pre : Pt → Array Value → Prop} {Post : Pt → Array Value → Option Value → Pt → Prop} {PostX : Pt → Array Value → Addr → Pt → Prop} (hK : vx_Back l R p e below s args y 3 W9 Pre Post PostX)
    {g : JFrame} (hg : g.method = m) (hsize : g.locals.size = c.maxLocals) {argsL rest : List Value} (hlen : ∀ sig, parseMethodDescriptor y.desc = some sig → argsL.length = sig.parameters.length)
    (hstack : g.stack = argsL.reverse ++ rest) (hW : 2 * g.monitorRoom + (rest.map fun v => v.category).sum ≤ W9) (hdg : decode c.code g.pc = .ok (.invokestatic index, 3))
    (hpre : ∀ vm₁, s.WarmedH vm₁ → Pre ⟨T.setVm vm₁, locs, cells, slots⟩ argsL.toArray) :
    (∃ (v : Option Value) (vm₁ : Vm) (B : Pt), s.WarmedH vm₁ ∧ Stand p l e R s m args below meth c B.U B.locs B.cells B.slots ∧ Post ⟨T.setVm vm₁, locs, cells, slots⟩ argsL.toArray v B ∧
      ∀ target, Steps p.tables e below (B.U.setTop { g with pc := g.pc + 3, stack := v.toList ++ rest }) target → Steps p.tables e below (T.setTop g) target) ∨
    (∃ (q : Addr) (vm₁ : Vm) (B : Pt), s.WarmedH vm₁ ∧ Stand p l e R s m args below meth c B.U B.locs B.cells B.slots ∧ PostX ⟨T.setVm vm₁, locs, cells, slots⟩ argsL.toArray q B ∧
      Steps p.tables e below (T.setTop g) ((B.U.setTop { g with stack := rest }).pushFrame (.throwing q))) := by
  obtain ⟨mk, methM, cM, hnamed, hmethM, -, -, -, -, -, -, hsigM⟩ := Cond.codeWith_spec hcode
  have hstatic : methM.isStatic = true := Cond.static_spec hnamed hmethM hstat
  obtain ⟨kP, hkP, -⟩ := className_of_methodNamed hnamed
  have hinitP : kP.init = .initialized := Cond.initialized_spec (findClass_of_methodNamed hnamed) hkP hinit
  obtain ⟨vm₁, X₁, hstep₁⟩ := X.invokestatic hexec hown hlink hnamed hmethM hstatic hkP hinitP hy (g := g) hg (argsL := argsL) (rest := rest) (hlen _ hsigM) hstack hdg
  rcases hK m meth c ⟨T.setVm vm₁, locs, cells, slots⟩ { g with stack := rest } (.invokestatic index) mk argsL.toArray X₁ hg hsize hdg hW (X₁.named hnamed) (hpre vm₁ X₁.warmed) with ⟨v, B, X', hpost, hsteps⟩ | ⟨q, B, X', hpost, hsteps⟩
  · exact Or.inl ⟨v, vm₁, B, X₁.warmed, X', hpost, fun target h => hstep₁ _ fun acts => by rw [doInvoke_state]; exact hsteps.trans h⟩
  · exact Or.inr ⟨q, vm₁, B, X₁.warmed, X', hpost, hstep₁ _ fun acts => by rw [doInvoke_state]; exact hsteps⟩
theorem vx_callVW (X : Stand p l e R s m args below meth c T locs cells slots) (hexec : p.tables.exec = Jvm.exec) {own C : String} {index : Nat} {y : MethodName} {bytes : ByteArray} {maxL : Nat} {ret : Option FieldType} {hh : List (Nat × Nat × Nat × Nat)}
    (hown : s.vm.findClass own = some m.cls) (hlink : (Cond.methodLink own index y).before args s = true) (hinst : (Cond.instanceMethod y).before args s = true) (hsel : (Cond.selects C y y).before args s = true)
    (hcode : (Cond.codeWith y bytes maxL ret hh).before args s = true) (hy : y.cls ≠ "java/lang/invoke/MethodHandle" ∧ y.cls ≠ "java/lang/invoke/VarHandle")
    {W9 : Nat} {Pre : Pt → Array Value → Prop} {Post : Pt → Array Value → Option Value → Pt → Prop} (hK : Back l R p e below s args y 3 W9 Pre Post)
    {b : Addr} {cellB : Cell} (hcell : T.heap[b]? = some cellB) (hobj : cellB.vm.isStatics = false) (hcls : s.vm.findClass C = some cellB.cls)
    {g : JFrame} (hg : g.method = m) (hsize : g.locals.size = c.maxLocals) {argsL rest : List Value} (hlen : ∀ sig, parseMethodDescriptor y.desc = some sig → argsL.length = sig.parameters.length)
    (hstack : g.stack = argsL.reverse ++ .ref b :: rest) (hW : 2 * g.monitorRoom + (rest.map fun v => v.category).sum ≤ W9) (hdg : decode c.code g.pc = .ok (.invokevirtual index, 3))
    (hpre : ∀ vm₁, s.WarmedH vm₁ → Pre ⟨T.setVm vm₁, locs, cells, slots⟩ (Value.ref b :: argsL).toArray) :
    ∃ (v : Option Value) (vm₁ : Vm) (B : Pt), s.WarmedH vm₁ ∧ Stand p l e R s m args below meth c B.U B.locs B.cells B.slots ∧ Post ⟨T.setVm vm₁, locs, cells, slots⟩ (Value.ref b :: argsL).toArray v B ∧
      ∀ target, Steps p.tables e below (B.U.setTop { g with pc := g.pc + 3, stack := v.toList ++ rest }) target → Steps p.tables e below (T.setTop g) target := by
  obtain ⟨mk, methM, hnamed, hmethM, hstM, habM⟩ := Cond.instanceMethod_spec hinst
  obtain ⟨m8, methM', cM, hn8, hmethM', -, -, -, -, -, -, hsigM⟩ := Cond.codeWith_spec hcode
  cases Option.some.inj (hn8.symm.trans hnamed)
  cases hmethM.symm.trans hmethM'
  obtain ⟨c2, r2, m2, q1, q2, q3, q4, kP, hkP, hkPi⟩ := Cond.selects_spec hsel
  cases hcls.symm.trans q1
  cases (State.methodFound?_of_named hnamed hy).symm.trans q2
  cases hnamed.symm.trans q3
  have hselP : selectMethod e.platform s.vm cellB.cls mk = .method mk := by rw [Launch.admits_selectMethod X.admits]; exact q4
  obtain ⟨vm₁, X₁, hstep₁⟩ := X.invokevirtual hexec hown hlink hnamed hmethM hstM hkP hkPi hy (a := b) (cell := cellB) hcell
    (fun z h => by rw [h] at hobj; cases hobj) hselP hmethM habM hkP hkPi (g := g) hg (argsL := argsL) (rest := rest) (hlen _ hsigM) hstack hdg
  obtain ⟨v, B, X', hpost, hsteps⟩ := hK m meth c ⟨T.setVm vm₁, locs, cells, slots⟩ { g with stack := rest } (.invokevirtual index) mk (Value.ref b :: argsL).toArray X₁ hg hsize hdg hW (X₁.named hnamed) (hpre vm₁ X₁.warmed)
  exact ⟨v, vm₁, B, X₁.warmed, X', hpost, fun target h => hstep₁ _ fun acts => by rw [doInvoke_state]; exact hsteps.trans h⟩
abbrev vx_CVW (R : Room) (s : State) (args : Array Value) (own C : String) (index : Nat) (y : MethodName) (bytes : ByteArray) (maxL : Nat) (ret : Option FieldType) (hh : List (Nat × Nat × Nat × Nat)) (ws : List Cond) (rm : Room) (mc ms n : Nat) : Prop :=
  (rm.cells = mc ∧ rm.slots = ms ∧ rm.frames + 1 ≤ R.frames ∧ 8 + (maxL + 11) + rm.locals ≤ R.locals ∧ (∀ w ∈ ws, ∀ (a' : Array Value) (U : State), s.WarmedH U.vm → w.before a' U = true) ∧ Cond.codeWith y bytes maxL ret hh ∈ ws) ∧
  (Cond.codeWith y bytes maxL ret hh).before args s = true ∧ (Cond.initialized y.cls).before args s = true ∧ (y.cls ≠ "java/lang/invoke/MethodHandle" ∧ y.cls ≠ "java/lang/invoke/VarHandle") ∧
  (∀ sig, parseMethodDescriptor y.desc = some sig → n = sig.parameters.length) ∧ (Cond.methodLink own index y).before args s = true ∧ (Cond.instanceMethod y).before args s = true ∧ (Cond.selects C y y).before args s = true
theorem vx_cwVW {own C : String} {index maxL mc ms : Nat} {y : MethodName} {bytes : ByteArray} {ret : Option FieldType} {hh : List (Nat × Nat × Nat × Nat)} {Ts ws ws' : List Cond} {rm : Room} (n : Nat) (ht : ∀ w ∈ Ts, w.before args s = true) (hT : GoodIn Ts (wsV own index C y ws)) (hw : ws = Cond.codeWith y bytes maxL ret hh :: ws') (hrc : rm.cells = mc) (hrs : rm.slots = ms)
    (hd : y.cls = C ∧ y.cls ≠ "java/lang/invoke/MethodHandle" ∧ y.cls ≠ "java/lang/invoke/VarHandle" ∧ (parseMethodDescriptor y.desc).map (fun d => d.parameters.length) = some n) (hR : rm.frames + 1 ≤ R.frames ∧ 8 + (maxL + 11) + rm.locals ≤ R.locals) :
    vx_CVW R s args own C index y bytes maxL ret hh ws rm mc ms n := by
  obtain ⟨hC, hd⟩ := hd
  subst hC
  have ok : ∀ w ∈ wsV own index y.cls y ws, w.before args s = true := fun w h => ht w (hT w h).1
  have hG : GoodIn Ts ws := fun w h => hT w (by unfold wsV; exact List.mem_append_right _ h)
  have hc : Cond.codeWith y bytes maxL ret hh ∈ ws := by rw [hw]; exact List.mem_cons_self
  refine ⟨⟨hrc, hrs, hR.1, hR.2, pay_in ht hG, hc⟩, ht _ (hG _ hc).1, ok _ (by simp [wsV]), ⟨hd.1, hd.2.1⟩, fun sig h => ?_, ok _ (by simp [wsV]), ok _ (by simp [wsV]), ok _ (by simp [wsV])⟩
  have h2 := hd.2.2
  rw [h] at h2
  exact (Option.some.inj h2).symm
theorem vx_runVW {y : MethodName} {bytes cc : ByteArray} {maxL nL mc ms n index : Nat} {ret : Option FieldType} {hh : List (Nat × Nat × Nat × Nat)} {ws : List Cond} {rm : Room} {Pc : Array Value → State → Prop} {Qc : Array Value → State → Outcome → State → Prop} {free : Addr → Prop} {Ts : List Cond} {own C : String} {b : Addr} {As rest : List Value} {g : JFrame}
    (S : CallFix p m c cc nL s args Ts own) (hM : Met l y ws rm Pc Qc mc ms free) (cw : vx_CVW R s args own C index y bytes maxL ret hh ws rm mc ms n) (hp : PreV s H C b Pc As)
    (hg : g.method = m) (hn : As.length = n) (hsize : g.locals.size = nL) (hstack : g.stack = As.reverse ++ .ref b :: rest) (hW : 2 * g.monitorRoom + (rest.map fun v => v.category).sum ≤ 8) (hdg : decode cc g.pc = .ok (.invokevirtual index, 3)) (hf : cells + mc ≤ R.cells ∧ slots + ms ≤ R.slots) :
    va_Run p l e R s m args below meth c H locs cells slots mc ms g rest (Qc (Value.ref b :: As).toArray) free := by
  obtain ⟨⟨hrc, hrs, hfr, hlo, hws, hcw⟩, hcode, hini, hy, hlen, hl, hin, hse⟩ := cw
  have hK : Back l R p e below s args y 3 8 (PreOf R mc ms Pc) (PostOf Qc mc ms free) := va_backW (hh := hh) (bytes := bytes) (maxL := maxL) (ret := ret) hM hp.1 hrc hrs hfr hlo hws hcw (fun a' U hW => word_at hW (Or.inl (by first | rfl | simp [Cond.onTables, Cond.keeps, Cond.steady])) hini)
  obtain ⟨hx, hb, hml, ho, -⟩ := S
  obtain ⟨-, ⟨cellB, hcB, hoB, hclB⟩, hPc⟩ := hp
  intro T hT X
  obtain ⟨v, vm₁, ⟨U', l2, c2, s2⟩, hW₁, X', ⟨g', mk, t, L, e1, e2, hq, h1, hL, h2, h3⟩, st⟩ := vx_callVW X hx (C := C) (hh := hh) (bytes := bytes) (maxL := maxL) (ret := ret) ho hl hin hse hcode hy hK (by rw [hT]; exact hcB) hoB hclB hg (hsize.trans hml.symm) (argsL := As) (rest := rest) (fun sig h => hn.trans (hlen sig h)) hstack hW (by rw [hb]; exact hdg)
    (fun vm₁ hW₁ => ⟨hf.1, hf.2, hPc (T.setVm vm₁) hT hW₁⟩)
  dsimp only [Pt.U, Pt.locs, Pt.cells, Pt.slots] at X' e1 e2 h1 h2 h3 st
  subst h1; subst h2; subst h3
  exact ⟨v, (T.setVm vm₁).calling g' mk (Value.ref b :: As).toArray, t, U', L, hT, X', hL, e1, e2, hq, st⟩
section
variable {y : MethodName} {bytes cc : ByteArray} {maxL nL mc ms n index : Nat} {ret : Option FieldType} {ws : List Cond} {rm : Room} {Pc : Array Value → State → Prop} {Qc : Array Value → State → Outcome → State → Prop} {XC : String → State → State → Prop} {free : Addr → Prop} {Ts : List Cond} {own C : String} {b : Addr} {As rest : List Value} {g : JFrame}
theorem vx_runVX {hh : List (Nat × Nat × Nat × Nat)} (S : CallFix p m c cc nL s args Ts own) (hM : vx_Met l y ws rm Pc Qc XC mc ms free) (cw : vx_CVW R s args own C index y bytes maxL ret hh ws rm mc ms n) (hp : PreV s H C b Pc As)
    (hg : g.method = m) (hn : As.length = n) (hsize : g.locals.size = nL) (hstack : g.stack = As.reverse ++ .ref b :: rest) (hW : 2 * g.monitorRoom + (rest.map fun v => v.category).sum ≤ 8) (hdg : decode cc g.pc = .ok (.invokevirtual index, 3)) (hf : cells + mc ≤ R.cells ∧ slots + ms ≤ R.slots) :
    vx_Run p l e R s m args below meth c H locs cells slots mc ms g rest (Qc (Value.ref b :: As).toArray) XC free := by
  obtain ⟨⟨hrc, hrs, hfr, hlo, hws, hcw⟩, hcode, hini, hy, hlen, hl, hin, hse⟩ := cw
  have hK : vx_Back l R p e below s args y 3 8 (PreOf R mc ms Pc) (PostOf Qc mc ms free) (vx_Post XC mc ms free) := vx_backW (hh := hh) (bytes := bytes) (maxL := maxL) (ret := ret) hM hp.1 hrc hrs hfr hlo hws hcw (fun a' U hW => word_at hW (Or.inl (by first | rfl | simp [Cond.onTables, Cond.keeps, Cond.steady])) hini)
  obtain ⟨hx, hb, hml, ho, -⟩ := S
  obtain ⟨-, ⟨cellB, hcB, hoB, hclB⟩, hPc⟩ := hp
  intro T hT X
  rcases vx_callVX X hx (C := C) (hh := hh) (bytes := bytes) (maxL := maxL) (ret := ret) ho hl hin hse hcode hy hK (by rw [hT]; exact hcB) hoB hclB hg (hsize.trans hml.symm) (argsL := As) (rest := rest) (fun sig h => hn.trans (hlen sig h)) hstack hW (by rw [hb]; exact hdg)
    (fun vm₁ hW₁ => ⟨hf.1, hf.2, hPc (T.setVm vm₁) hT hW₁⟩) with ⟨v, vm₁, ⟨U', l2, c2, s2⟩, hW₁, X', ⟨g', mk, t, L, e1, e2, hq, h1, hL, h2, h3⟩, st⟩ | ⟨q, vm₁, ⟨U', l2, c2, s2⟩, hW₁, X', ⟨g', mk, t, L, E, ce, e1, e2, hq, hce, hcv, hcl, h1, hL, h2, h3⟩, st⟩
  · dsimp only [Pt.U, Pt.locs, Pt.cells, Pt.slots] at X' e1 e2 h1 h2 h3 st
    subst h1; subst h2; subst h3
    exact Or.inl ⟨v, (T.setVm vm₁).calling g' mk (Value.ref b :: As).toArray, t, U', L, hT, X', hL, e1, e2, hq, st⟩
  · dsimp only [Pt.U, Pt.locs, Pt.cells, Pt.slots] at X' e1 e2 h1 h2 h3 st hcl
    subst h1; subst h2; subst h3
    exact Or.inr ⟨q, (T.setVm vm₁).calling g' mk (Value.ref b :: As).toArray, t, U', L, E, ce, hT, X', hL, e1, e2, hq, hce, hcv, vx_cls hW₁ hcl, st⟩
theorem vx_runSX {hh : List (Nat × Nat × Nat × Nat)} (S : CallFix p m c cc nL s args Ts own) (hM : vx_Met l y ws rm Pc Qc XC mc ms free) (cw : vx_CSW R s args own index y bytes maxL ret hh ws rm mc ms n) (hp : PreS s H Pc As)
    (hg : g.method = m) (hn : As.length = n) (hsize : g.locals.size = nL) (hstack : g.stack = As.reverse ++ rest) (hW : 2 * g.monitorRoom + (rest.map fun v => v.category).sum ≤ 8) (hdg : decode cc g.pc = .ok (.invokestatic index, 3)) (hf : cells + mc ≤ R.cells ∧ slots + ms ≤ R.slots) :
    vx_Run p l e R s m args below meth c H locs cells slots mc ms g rest (Qc As.toArray) XC free := by
  obtain ⟨⟨hrc, hrs, hfr, hlo, hws, hcw⟩, hcode, hini, hy, hlen, hl, hstt⟩ := cw
  have hK : vx_Back l R p e below s args y 3 8 (PreOf R mc ms Pc) (PostOf Qc mc ms free) (vx_Post XC mc ms free) := vx_backW (hh := hh) (bytes := bytes) (maxL := maxL) (ret := ret) hM hp.1 hrc hrs hfr hlo hws hcw (fun a' U hW => word_at hW (Or.inl (by first | rfl | simp [Cond.onTables, Cond.keeps, Cond.steady])) hini)
  obtain ⟨hx, hb, hml, ho, -⟩ := S
  intro T hT X
  rcases vx_callSX X hx (hh := hh) (bytes := bytes) (maxL := maxL) (ret := ret) ho hl hstt hini hcode hy hK hg (hsize.trans hml.symm) (argsL := As) (rest := rest) (fun sig h => hn.trans (hlen sig h)) hstack hW (by rw [hb]; exact hdg)
    (fun vm₁ hW₁ => ⟨hf.1, hf.2, hp.2 (T.setVm vm₁) hT hW₁⟩) with ⟨v, vm₁, ⟨U', l2, c2, s2⟩, hW₁, X', ⟨g', mk, t, L, e1, e2, hq, h1, hL, h2, h3⟩, st⟩ | ⟨q, vm₁, ⟨U', l2, c2, s2⟩, hW₁, X', ⟨g', mk, t, L, E, ce, e1, e2, hq, hce, hcv, hcl, h1, hL, h2, h3⟩, st⟩
  · dsimp only [Pt.U, Pt.locs, Pt.cells, Pt.slots] at X' e1 e2 h1 h2 h3 st
    subst h1; subst h2; subst h3
    exact Or.inl ⟨v, (T.setVm vm₁).calling g' mk As.toArray, t, U', L, hT, X', hL, e1, e2, hq, st⟩
  · dsimp only [Pt.U, Pt.locs, Pt.cells, Pt.slots] at X' e1 e2 h1 h2 h3 st hcl
    subst h1; subst h2; subst h3
    exact Or.inr ⟨q, (T.setVm vm₁).calling g' mk As.toArray, t, U', L, E, ce, hT, X', hL, e1, e2, hq, hce, hcv, vx_cls hW₁ hcl, st⟩
end
end VXH
theorem vx_ofWH {l : Launch} {y : MethodName} {ws ws' : List Cond} {rm : Room} {Pc : Array Value → State → Prop} {Qc : Array Value → State → Outcome → State → Prop} {XC : String → State → State → Prop} {mc ms : Nat} {free : Addr → Prop} {cc : ByteArray} {maxL : Nat} {ret : Option FieldType} {hh : List (Nat × Nat × Nat × Nat)}
    (hy : plainName y.cls = true) (hw : ws = Cond.codeWith y cc maxL ret hh :: ws')
    (body : ∀ p e s m args below meth c s₁, BodyLoose p l y (headSpec ws rm) cc maxL ret e s m args below meth c s₁ → c.maxLocals = maxL → Pc args s →
      W p l e (headSpec ws rm).room s m args below meth c s.heap [] 0 0 (vx_MQ below Qc XC args s mc ms free) (entryFrame m args maxL)) : vx_Met l y ws rm Pc Qc XC mc ms free := by
  refine MetFree.of_bodyS (code := cc) (maxLocals := maxL) (ret := ret) hy ?_ ?_
  · intro args s m h hn
    obtain ⟨m9, meth, c, hn9, h1, h2, h3, h4, -, h5, h6, -⟩ := Cond.codeWith_spec (atoms_spec (ws := ws) h _ (by rw [hw]; exact List.mem_cons_self))
    cases hn.symm.trans hn9
    exact ⟨meth, c, h1, h2, h3, h4, h5, h6⟩
  · intro p e s m args below meth c s₁ B hml hP _
    have hh0 : s₁.heap = s.heap := by rw [B.state]; rfl
    obtain ⟨t, a1, o, b1, b2, b3⟩ := body p e s m args below meth c s₁ B hml hP s₁ hh0 (Stand.of_body B)
    exact ⟨t, o, a1, b1, b2, b3⟩
/-! ===== END ===== -/
end
section
/-- the words that a method may hand on to those that it calls -/
def tw : List Cond := lw_tbl.filter goodWord
theorem tw_1 {w : Cond} {i : Nat} (h : tables_1_1[i]? = some w) (g : goodWord w = true) : w ∈ tw := by
  unfold tw lw_tbl tables_1
  exact List.mem_filter.mpr ⟨List.mem_append_right _ (List.mem_append_left _ (List.mem_of_getElem? h)), g⟩
theorem tw_2 {w : Cond} {i : Nat} (h : tables_1_2[i]? = some w) (g : goodWord w = true) : w ∈ tw := by
  unfold tw lw_tbl tables_1
  exact List.mem_filter.mpr ⟨List.mem_append_right _ (List.mem_append_right _ (List.mem_append_left _ (List.mem_of_getElem? h))), g⟩
theorem tw_3 {w : Cond} {i : Nat} (h : tables_1_3[i]? = some w) (g : goodWord w = true) : w ∈ tw := by
  unfold tw lw_tbl tables_1
  exact List.mem_filter.mpr ⟨List.mem_append_right _ (List.mem_append_right _ (List.mem_append_right _ (List.mem_append_left _ (List.mem_of_getElem? h)))), g⟩
theorem tw_4 {w : Cond} {i : Nat} (h : tables_1_4[i]? = some w) (g : goodWord w = true) : w ∈ tw := by
  unfold tw lw_tbl tables_1
  exact List.mem_filter.mpr ⟨List.mem_append_right _ (List.mem_append_right _ (List.mem_append_right _ (List.mem_append_right _ (List.mem_of_getElem? h)))), g⟩
theorem tw_p {w : Cond} {i : Nat} (h : (k2_sels lw_privs)[i]? = some w) (g : goodWord w = true) : w ∈ tw := by
  unfold tw lw_tbl
  exact List.mem_filter.mpr ⟨List.mem_append_left _ (List.mem_of_getElem? h), g⟩
theorem tw_good {c w : Cond} (hm : w ∈ tw) : w ∈ c :: tw ∧ ((w.onTables && w.keeps) = true ∨ ∃ ty, w = .arrayClass ty) := ⟨List.mem_cons_of_mem _ hm, good_of_word (List.mem_filter.mp hm).2⟩
theorem tg_N {c : Cond} {y : MethodName} {b : ByteArray} {n : Nat} {r : Option FieldType} (h5 : Cond.code y b n r ∈ tw) : GoodIn (c :: tw) (Cond.code y b n r :: tw) := by
  intro w hw
  rcases List.mem_cons.mp hw with rfl | hw
  · exact tw_good h5
  · exact tw_good hw
theorem tg_W {c : Cond} {y : MethodName} {b : ByteArray} {n : Nat} {r : Option FieldType} {hh : List (Nat × Nat × Nat × Nat)} (h5 : Cond.codeWith y b n r hh ∈ tw) : GoodIn (c :: tw) (Cond.codeWith y b n r hh :: tw) := by
  intro w hw
  rcases List.mem_cons.mp hw with rfl | hw
  · exact tw_good h5
  · exact tw_good hw
theorem tg_app {c : Cond} {L ws : List Cond} (hL : ∀ w ∈ L, w ∈ tw) (h : GoodIn (c :: tw) ws) : GoodIn (c :: tw) (L ++ ws) := fun w hw => (List.mem_append.mp hw).elim (fun q => tw_good (hL w q)) (h w)
theorem tl_c {w : Cond} {L : List Cond} (h : w ∈ tw) (t : ∀ x ∈ L, x ∈ tw) : ∀ x ∈ w :: L, x ∈ tw := fun x hx => (List.mem_cons.mp hx).elim (fun e => e ▸ h) (t x)
theorem tl_n : ∀ x ∈ ([] : List Cond), x ∈ tw := fun _ h => nomatch h
theorem tg_V {c : Cond} {own C : String} {idx : Nat} {y : MethodName} {b : ByteArray} {n : Nat} {r : Option FieldType} (h1 : Cond.methodLink own idx y ∈ tw) (h2 : Cond.instanceMethod y ∈ tw) (h3 : Cond.selects C y y ∈ tw) (h4 : Cond.initialized C ∈ tw) (h5 : Cond.code y b n r ∈ tw) : GoodIn (c :: tw) (wsV own idx C y (Cond.code y b n r :: tw)) := tg_app (tl_c h1 (tl_c h2 (tl_c h3 (tl_c h4 tl_n)))) (tg_N h5)
theorem tg_S {c : Cond} {own : String} {idx : Nat} {y : MethodName} {b : ByteArray} {n : Nat} {r : Option FieldType} (h1 : Cond.methodLink own idx y ∈ tw) (h2 : Cond.static y ∈ tw) (h4 : Cond.initialized y.cls ∈ tw) (h5 : Cond.code y b n r ∈ tw) : GoodIn (c :: tw) (va_wsS own idx y (Cond.code y b n r :: tw)) := tg_app (tl_c h1 (tl_c h2 (tl_c h4 tl_n))) (tg_N h5)
theorem tg_SW {c : Cond} {own : String} {idx : Nat} {y : MethodName} {b : ByteArray} {n : Nat} {r : Option FieldType} {hh : List (Nat × Nat × Nat × Nat)} (h1 : Cond.methodLink own idx y ∈ tw) (h2 : Cond.static y ∈ tw) (h4 : Cond.initialized y.cls ∈ tw) (h5 : Cond.codeWith y b n r hh ∈ tw) : GoodIn (c :: tw) (va_wsS own idx y (Cond.codeWith y b n r hh :: tw)) := tg_app (tl_c h1 (tl_c h2 (tl_c h4 tl_n))) (tg_W h5)
/-- words that hold all along but aren't handed on by themselves -/
def jnw : List Cond := [Cond.castable "java/lang/IndexOutOfBoundsException" "java/lang/IndexOutOfBoundsException", Cond.declares ⟨"java/lang/RuntimeException", "<init>", "()V"⟩, Cond.declares ⟨"java/lang/RuntimeException", "<init>", "(Ljava/lang/String;)V"⟩, Cond.declares ⟨"java/lang/Exception", "<init>", "()V"⟩, Cond.declares ⟨"java/lang/Exception", "<init>", "(Ljava/lang/String;)V"⟩, Cond.declares ⟨"java/lang/Throwable", "<init>", "()V"⟩, Cond.declares ⟨"java/lang/Throwable", "<init>", "(Ljava/lang/String;)V"⟩, Cond.castable "java/lang/IllegalStateException" "java/lang/IllegalStateException", Cond.castable "java/lang/IllegalArgumentException" "java/lang/IllegalArgumentException", Cond.methodLinkNest "KindTables$Examples" 37 ⟨"KindTables", "square", "(I)I"⟩ "KindTables", Cond.methodLinkNest "KindTables$Hauls" 45 ⟨"KindTables", "square", "(I)I"⟩ "KindTables", Cond.methodLinkNest "KindTables$Hauls" 34 ⟨"KindTables", "partOf", "(JJI)J"⟩ "KindTables"]
def jN (U : State) : Prop := ∀ w ∈ jnw, va_Nw w U
theorem jnw_on : ∀ w ∈ jnw, w.onTables = true := by decide
theorem jN.same {u U : State} (hv : u.vm = U.vm) (h : jN u) : jN U := fun w hw => va_Nw.same (jnw_on w hw) hv (h w hw)
theorem jN.warm {s U : State} (hW : s.WarmedH U.vm) (h : jN s) : jN U := by
  intro w hw
  have hz := h w hw
  unfold jnw at hw
  rcases List.mem_cons.mp hw with rfl | hw
  · exact va_Nw.warmC hW hz
  rcases List.mem_cons.mp hw with rfl | hw
  · exact va_Nw.warmD hW hz
  rcases List.mem_cons.mp hw with rfl | hw
  · exact va_Nw.warmD hW hz
  rcases List.mem_cons.mp hw with rfl | hw
  · exact va_Nw.warmD hW hz
  rcases List.mem_cons.mp hw with rfl | hw
  · exact va_Nw.warmD hW hz
  rcases List.mem_cons.mp hw with rfl | hw
  · exact va_Nw.warmD hW hz
  rcases List.mem_cons.mp hw with rfl | hw
  · exact va_Nw.warmD hW hz
  rcases List.mem_cons.mp hw with rfl | hw
  · exact va_Nw.warmC hW hz
  rcases List.mem_cons.mp hw with rfl | hw
  · exact va_Nw.warmC hW hz
  rcases List.mem_cons.mp hw with rfl | hw
  · exact va_Nw.warmM hW hz
  rcases List.mem_cons.mp hw with rfl | hw
  · exact va_Nw.warmM hW hz
  rcases List.mem_cons.mp hw with rfl | hw
  · exact va_Nw.warmM hW hz
  exact nomatch hw
theorem tm1_0 : Cond.initialized "KindTablesLaw" ∈ tw := tw_1 (i := 0) rfl rfl
theorem tm1_1 : Cond.initialized "KindTables" ∈ tw := tw_1 (i := 1) rfl rfl
theorem tm1_2 : Cond.initialized "java/lang/Math" ∈ tw := tw_1 (i := 2) rfl rfl
theorem tm1_3 : Cond.initialized "KindTables$Examples" ∈ tw := tw_1 (i := 3) rfl rfl
theorem tm1_4 : Cond.initialized "KindTables$Teller" ∈ tw := tw_1 (i := 4) rfl rfl
theorem tm1_5 : Cond.initialized "KindTables$Hauls" ∈ tw := tw_1 (i := 5) rfl rfl
theorem tm1_6 : Cond.initialized "KindTables$Law" ∈ tw := tw_1 (i := 6) rfl rfl
theorem tm1_7 : Cond.initialized "KindTablesModel" ∈ tw := tw_1 (i := 7) rfl rfl
theorem tm1_8 : Cond.initialized "java/lang/Throwable" ∈ tw := tw_1 (i := 8) rfl rfl
theorem tm1_9 : Cond.initialized "java/lang/Exception" ∈ tw := tw_1 (i := 9) rfl rfl
theorem tm1_10 : Cond.initialized "java/lang/RuntimeException" ∈ tw := tw_1 (i := 10) rfl rfl
theorem tm1_11 : Cond.initialized "java/lang/IndexOutOfBoundsException" ∈ tw := tw_1 (i := 11) rfl rfl
theorem tm1_12 : Cond.initialized "java/lang/IllegalStateException" ∈ tw := tw_1 (i := 12) rfl rfl
theorem tm1_13 : Cond.initialized "java/lang/IllegalArgumentException" ∈ tw := tw_1 (i := 13) rfl rfl
theorem tm1_14 : Cond.classLink "KindTablesLaw" 8 "KindTables" ∈ tw := tw_1 (i := 14) rfl rfl
theorem tm1_15 : Cond.instantiable "KindTables" 6 ∈ tw := tw_1 (i := 15) rfl rfl
theorem tm1_16 : Cond.methodLink "KindTablesLaw" 91 ⟨"KindTables", "<init>", "(II)V"⟩ ∈ tw := tw_1 (i := 16) rfl rfl
theorem tm1_17 : Cond.instanceMethod ⟨"KindTables", "<init>", "(II)V"⟩ ∈ tw := tw_1 (i := 17) rfl rfl
theorem tm1_18 : Cond.code ⟨"KindTables", "<init>", "(II)V"⟩ prog_1_method_1_code 4 none ∈ tw := tw_1 (i := 18) rfl rfl
theorem tm1_19 : Cond.methodLink "KindTables" 1 ⟨"java/lang/Object", "<init>", "()V"⟩ ∈ tw := tw_1 (i := 19) rfl rfl
theorem tm1_20 : Cond.instanceMethod ⟨"java/lang/Object", "<init>", "()V"⟩ ∈ tw := tw_1 (i := 20) rfl rfl
theorem tm1_21 : Cond.code ⟨"java/lang/Object", "<init>", "()V"⟩ object_method_1_code 1 none ∈ tw := tw_1 (i := 21) rfl rfl
theorem tm1_22 : Cond.methodLink "KindTables" 9 ⟨"java/lang/Math", "min", "(II)I"⟩ ∈ tw := tw_1 (i := 22) rfl rfl
theorem tm1_23 : Cond.static ⟨"java/lang/Math", "min", "(II)I"⟩ ∈ tw := tw_1 (i := 23) rfl rfl
theorem tm1_24 : Cond.code ⟨"java/lang/Math", "min", "(II)I"⟩ prog_12_method_69_code 2 (some .int) ∈ tw := tw_1 (i := 24) rfl rfl
theorem tm1_25 : Cond.methodLink "KindTables" 15 ⟨"java/lang/Math", "max", "(II)I"⟩ ∈ tw := tw_1 (i := 25) rfl rfl
theorem tm1_26 : Cond.static ⟨"java/lang/Math", "max", "(II)I"⟩ ∈ tw := tw_1 (i := 26) rfl rfl
theorem tm1_27 : Cond.code ⟨"java/lang/Math", "max", "(II)I"⟩ prog_12_method_65_code 2 (some .int) ∈ tw := tw_1 (i := 27) rfl rfl
theorem tm1_28 : Cond.classLink "KindTables" 25 "KindTables$Examples" ∈ tw := tw_1 (i := 28) rfl rfl
theorem tm1_29 : Cond.instantiable "KindTables$Examples" 6 ∈ tw := tw_1 (i := 29) rfl rfl
theorem tm1_30 : Cond.methodLink "KindTables" 27 ⟨"KindTables$Examples", "<init>", "(I)V"⟩ ∈ tw := tw_1 (i := 30) rfl rfl
theorem tm1_31 : Cond.instanceMethod ⟨"KindTables$Examples", "<init>", "(I)V"⟩ ∈ tw := tw_1 (i := 31) rfl rfl
theorem tm1_32 : Cond.code ⟨"KindTables$Examples", "<init>", "(I)V"⟩ prog_2_method_1_code 3 none ∈ tw := tw_1 (i := 32) rfl rfl
theorem tm1_33 : Cond.methodLink "KindTables$Examples" 3 ⟨"java/lang/Object", "<init>", "()V"⟩ ∈ tw := tw_1 (i := 33) rfl rfl
theorem tm1_34 : Cond.classLink "KindTables$Examples" 15 "[[I" ∈ tw := tw_1 (i := 34) rfl rfl
theorem tm1_36 : Cond.fieldLink "KindTables$Examples" 9 "KindTables$Examples" "features" "I" ∈ tw := tw_1 (i := 36) rfl rfl
theorem tm1_37 : Cond.fieldLink "KindTables$Teller" 26 "KindTables$Examples" "features" "I" ∈ tw := tw_1 (i := 37) rfl rfl
theorem tm1_38 : Cond.fieldLink "KindTables$Examples" 17 "KindTables$Examples" "numbers" "[[I" ∈ tw := tw_1 (i := 38) rfl rfl
theorem tm1_39 : Cond.fieldLink "KindTables" 84 "KindTables$Examples" "numbers" "[[I" ∈ tw := tw_1 (i := 39) rfl rfl
theorem tm1_40 : Cond.fieldLink "KindTables$Examples" 20 "KindTables$Examples" "taught" "[I" ∈ tw := tw_1 (i := 40) rfl rfl
theorem tm1_41 : Cond.fieldLink "KindTables" 88 "KindTables$Examples" "taught" "[I" ∈ tw := tw_1 (i := 41) rfl rfl
theorem tm1_42 : Cond.fieldLink "KindTables$Teller" 52 "KindTables$Examples" "taught" "[I" ∈ tw := tw_1 (i := 42) rfl rfl
theorem tm1_43 : Cond.fieldLink "KindTables$Examples" 24 "KindTables$Examples" "widths" "[I" ∈ tw := tw_1 (i := 43) rfl rfl
theorem tm1_44 : Cond.fieldLink "KindTables" 92 "KindTables$Examples" "widths" "[I" ∈ tw := tw_1 (i := 44) rfl rfl
theorem tm1_45 : Cond.fieldLink "KindTables$Examples" 27 "KindTables$Examples" "groupOf" "[I" ∈ tw := tw_1 (i := 45) rfl rfl
theorem tm1_46 : Cond.fieldLink "KindTables$Examples" 30 "KindTables$Examples" "size" "I" ∈ tw := tw_1 (i := 46) rfl rfl
theorem tm1_47 : Cond.fieldLink "KindTables" 60 "KindTables$Examples" "size" "I" ∈ tw := tw_1 (i := 47) rfl rfl
theorem tm1_48 : Cond.fieldLink "KindTables$Teller" 49 "KindTables$Examples" "size" "I" ∈ tw := tw_1 (i := 48) rfl rfl
theorem tm1_49 : Cond.laysFinal "KindTables$Examples" "KindTables$Examples" "features" "I" ∈ tw := tw_1 (i := 49) rfl rfl
theorem tm1_50 : Cond.soleField "KindTables$Examples" "features" ∈ tw := tw_1 (i := 50) rfl rfl
theorem tm1_51 : Cond.laysFinal "KindTables$Examples" "KindTables$Examples" "numbers" "[[I" ∈ tw := tw_1 (i := 51) rfl rfl
theorem tm1_52 : Cond.soleField "KindTables$Examples" "numbers" ∈ tw := tw_1 (i := 52) rfl rfl
theorem tm1_53 : Cond.laysFinal "KindTables$Examples" "KindTables$Examples" "taught" "[I" ∈ tw := tw_1 (i := 53) rfl rfl
theorem tm1_54 : Cond.soleField "KindTables$Examples" "taught" ∈ tw := tw_1 (i := 54) rfl rfl
theorem tm1_55 : Cond.laysFinal "KindTables$Examples" "KindTables$Examples" "widths" "[I" ∈ tw := tw_1 (i := 55) rfl rfl
theorem tm1_56 : Cond.soleField "KindTables$Examples" "widths" ∈ tw := tw_1 (i := 56) rfl rfl
theorem tm1_57 : Cond.laysFinal "KindTables$Examples" "KindTables$Examples" "groupOf" "[I" ∈ tw := tw_1 (i := 57) rfl rfl
theorem tm1_58 : Cond.soleField "KindTables$Examples" "groupOf" ∈ tw := tw_1 (i := 58) rfl rfl
theorem tm1_59 : Cond.lays "KindTables$Examples" "KindTables$Examples" "size" "I" ∈ tw := tw_1 (i := 59) rfl rfl
theorem tm1_60 : Cond.soleField "KindTables$Examples" "size" ∈ tw := tw_1 (i := 60) rfl rfl
theorem tm1_61 : Cond.superclass "KindTables$Examples" "java/lang/Object" ∈ tw := tw_1 (i := 61) rfl rfl
theorem tm1_62 : Cond.arrayClass .int ∈ tw := tw_1 (i := 62) rfl rfl
theorem tm1_63 : Cond.classLink "KindTables" 34 "KindTables$Teller" ∈ tw := tw_1 (i := 63) rfl rfl
theorem tm1_64 : Cond.instantiable "KindTables$Teller" 6 ∈ tw := tw_1 (i := 64) rfl rfl
theorem tm1_65 : Cond.methodLink "KindTables" 36 ⟨"KindTables$Teller", "<init>", "(LKindTables$Examples;I)V"⟩ ∈ tw := tw_1 (i := 65) rfl rfl
theorem tm1_66 : Cond.instanceMethod ⟨"KindTables$Teller", "<init>", "(LKindTables$Examples;I)V"⟩ ∈ tw := tw_1 (i := 66) rfl rfl
theorem tm1_67 : Cond.code ⟨"KindTables$Teller", "<init>", "(LKindTables$Examples;I)V"⟩ prog_5_method_1_code 4 none ∈ tw := tw_1 (i := 67) rfl rfl
theorem tm1_68 : Cond.methodLink "KindTables$Teller" 3 ⟨"java/lang/Object", "<init>", "()V"⟩ ∈ tw := tw_1 (i := 68) rfl rfl
theorem tm1_69 : Cond.fieldLink "KindTables$Teller" 9 "KindTables$Teller" "examples" "LKindTables$Examples;" ∈ tw := tw_1 (i := 69) rfl rfl
theorem tm1_70 : Cond.fieldLink "KindTables$Teller" 15 "KindTables$Teller" "kinds" "I" ∈ tw := tw_1 (i := 70) rfl rfl
theorem tm1_71 : Cond.fieldLink "KindTables$Teller" 19 "KindTables$Teller" "order" "[I" ∈ tw := tw_1 (i := 71) rfl rfl
theorem tm1_72 : Cond.fieldLink "KindTables$Teller" 23 "KindTables$Teller" "tally" "[I" ∈ tw := tw_1 (i := 72) rfl rfl
theorem tm1_73 : Cond.fieldLink "KindTables$Teller" 31 "KindTables$Teller" "rights" "[I" ∈ tw := tw_1 (i := 73) rfl rfl
theorem tm1_74 : Cond.fieldLink "KindTables$Teller" 34 "KindTables$Teller" "leastVotes" "I" ∈ tw := tw_1 (i := 74) rfl rfl
theorem tm1_75 : Cond.fieldLink "KindTables" 107 "KindTables$Teller" "leastVotes" "I" ∈ tw := tw_1 (i := 75) rfl rfl
theorem tm1_76 : Cond.laysFinal "KindTables$Teller" "KindTables$Teller" "examples" "LKindTables$Examples;" ∈ tw := tw_1 (i := 76) rfl rfl
theorem tm1_77 : Cond.soleField "KindTables$Teller" "examples" ∈ tw := tw_1 (i := 77) rfl rfl
theorem tm1_78 : Cond.laysFinal "KindTables$Teller" "KindTables$Teller" "kinds" "I" ∈ tw := tw_1 (i := 78) rfl rfl
theorem tm1_79 : Cond.soleField "KindTables$Teller" "kinds" ∈ tw := tw_1 (i := 79) rfl rfl
theorem tm1_80 : Cond.laysFinal "KindTables$Teller" "KindTables$Teller" "order" "[I" ∈ tw := tw_1 (i := 80) rfl rfl
theorem tm1_81 : Cond.soleField "KindTables$Teller" "order" ∈ tw := tw_1 (i := 81) rfl rfl
theorem tm1_82 : Cond.laysFinal "KindTables$Teller" "KindTables$Teller" "tally" "[I" ∈ tw := tw_1 (i := 82) rfl rfl
theorem tm1_83 : Cond.soleField "KindTables$Teller" "tally" ∈ tw := tw_1 (i := 83) rfl rfl
theorem tm1_84 : Cond.laysFinal "KindTables$Teller" "KindTables$Teller" "rights" "[I" ∈ tw := tw_1 (i := 84) rfl rfl
theorem tm1_85 : Cond.soleField "KindTables$Teller" "rights" ∈ tw := tw_1 (i := 85) rfl rfl
theorem tm1_86 : Cond.lays "KindTables$Teller" "KindTables$Teller" "leastVotes" "I" ∈ tw := tw_1 (i := 86) rfl rfl
theorem tm1_87 : Cond.soleField "KindTables$Teller" "leastVotes" ∈ tw := tw_1 (i := 87) rfl rfl
theorem tm1_88 : Cond.superclass "KindTables$Teller" "java/lang/Object" ∈ tw := tw_1 (i := 88) rfl rfl
theorem tm1_89 : Cond.classLink "KindTables" 43 "KindTables$Hauls" ∈ tw := tw_1 (i := 89) rfl rfl
theorem tm1_90 : Cond.instantiable "KindTables$Hauls" 5 ∈ tw := tw_1 (i := 90) rfl rfl
theorem tm1_91 : Cond.methodLink "KindTables" 45 ⟨"KindTables$Hauls", "<init>", "(I)V"⟩ ∈ tw := tw_1 (i := 91) rfl rfl
theorem tm1_92 : Cond.instanceMethod ⟨"KindTables$Hauls", "<init>", "(I)V"⟩ ∈ tw := tw_1 (i := 92) rfl rfl
theorem tm1_93 : Cond.code ⟨"KindTables$Hauls", "<init>", "(I)V"⟩ prog_3_method_1_code 2 none ∈ tw := tw_1 (i := 93) rfl rfl
theorem tm1_94 : Cond.methodLink "KindTables$Hauls" 3 ⟨"java/lang/Object", "<init>", "()V"⟩ ∈ tw := tw_1 (i := 94) rfl rfl
theorem tm1_95 : Cond.classLink "KindTables$Hauls" 22 "[[I" ∈ tw := tw_1 (i := 95) rfl rfl
theorem tm1_96 : Cond.fieldLink "KindTables$Hauls" 9 "KindTables$Hauls" "kinds" "I" ∈ tw := tw_1 (i := 96) rfl rfl
theorem tm1_97 : Cond.fieldLink "KindTables$Hauls" 15 "KindTables$Hauls" "xs" "[I" ∈ tw := tw_1 (i := 97) rfl rfl
theorem tm1_98 : Cond.fieldLink "KindTables$Hauls" 19 "KindTables$Hauls" "ys" "[I" ∈ tw := tw_1 (i := 98) rfl rfl
theorem tm1_99 : Cond.fieldLink "KindTables$Hauls" 24 "KindTables$Hauls" "catches" "[[I" ∈ tw := tw_1 (i := 99) rfl rfl
theorem tm1_100 : Cond.fieldLink "KindTables" 162 "KindTables$Hauls" "catches" "[[I" ∈ tw := tw_1 (i := 100) rfl rfl
theorem tm1_101 : Cond.fieldLink "KindTables$Hauls" 27 "KindTables$Hauls" "size" "I" ∈ tw := tw_1 (i := 101) rfl rfl
theorem tm1_102 : Cond.fieldLink "KindTables" 154 "KindTables$Hauls" "size" "I" ∈ tw := tw_1 (i := 102) rfl rfl
theorem tm1_103 : Cond.laysFinal "KindTables$Hauls" "KindTables$Hauls" "kinds" "I" ∈ tw := tw_1 (i := 103) rfl rfl
theorem tm1_104 : Cond.soleField "KindTables$Hauls" "kinds" ∈ tw := tw_1 (i := 104) rfl rfl
theorem tm1_105 : Cond.laysFinal "KindTables$Hauls" "KindTables$Hauls" "xs" "[I" ∈ tw := tw_1 (i := 105) rfl rfl
theorem tm1_106 : Cond.soleField "KindTables$Hauls" "xs" ∈ tw := tw_1 (i := 106) rfl rfl
theorem tm1_107 : Cond.laysFinal "KindTables$Hauls" "KindTables$Hauls" "ys" "[I" ∈ tw := tw_1 (i := 107) rfl rfl
theorem tm1_108 : Cond.soleField "KindTables$Hauls" "ys" ∈ tw := tw_1 (i := 108) rfl rfl
theorem tm1_109 : Cond.laysFinal "KindTables$Hauls" "KindTables$Hauls" "catches" "[[I" ∈ tw := tw_1 (i := 109) rfl rfl
theorem tm1_110 : Cond.soleField "KindTables$Hauls" "catches" ∈ tw := tw_1 (i := 110) rfl rfl
theorem tm1_111 : Cond.lays "KindTables$Hauls" "KindTables$Hauls" "size" "I" ∈ tw := tw_1 (i := 111) rfl rfl
theorem tm1_112 : Cond.soleField "KindTables$Hauls" "size" ∈ tw := tw_1 (i := 112) rfl rfl
theorem tm1_113 : Cond.superclass "KindTables$Hauls" "java/lang/Object" ∈ tw := tw_1 (i := 113) rfl rfl
theorem tm1_114 : Cond.classLink "KindTables" 50 "KindTables$Law" ∈ tw := tw_1 (i := 114) rfl rfl
theorem tm1_116 : Cond.instantiable "KindTables$Law" 3 ∈ tw := tw_1 (i := 116) rfl rfl
theorem tm1_117 : Cond.methodLink "KindTables" 56 ⟨"KindTables$Law", "<init>", "()V"⟩ ∈ tw := tw_1 (i := 117) rfl rfl
theorem tm1_118 : Cond.instanceMethod ⟨"KindTables$Law", "<init>", "()V"⟩ ∈ tw := tw_1 (i := 118) rfl rfl
theorem tm1_119 : Cond.code ⟨"KindTables$Law", "<init>", "()V"⟩ prog_4_method_1_code 1 none ∈ tw := tw_1 (i := 119) rfl rfl
theorem tm1_120 : Cond.methodLink "KindTables$Law" 3 ⟨"java/lang/Object", "<init>", "()V"⟩ ∈ tw := tw_1 (i := 120) rfl rfl
theorem tm1_121 : Cond.fieldLink "KindTables$Law" 9 "KindTables$Law" "lengths" "[I" ∈ tw := tw_1 (i := 121) rfl rfl
theorem tm1_122 : Cond.fieldLink "KindTables$Law" 15 "KindTables$Law" "strengths" "[I" ∈ tw := tw_1 (i := 122) rfl rfl
theorem tm1_123 : Cond.fieldLink "KindTables$Law" 18 "KindTables$Law" "rows" "I" ∈ tw := tw_1 (i := 123) rfl rfl
theorem tm1_124 : Cond.fieldLink "KindTables" 174 "KindTables$Law" "rows" "I" ∈ tw := tw_1 (i := 124) rfl rfl
theorem tm1_125 : Cond.laysFinal "KindTables$Law" "KindTables$Law" "lengths" "[I" ∈ tw := tw_1 (i := 125) rfl rfl
theorem tm1_126 : Cond.soleField "KindTables$Law" "lengths" ∈ tw := tw_1 (i := 126) rfl rfl
theorem tm1_127 : Cond.laysFinal "KindTables$Law" "KindTables$Law" "strengths" "[I" ∈ tw := tw_1 (i := 127) rfl rfl
theorem tm1_128 : Cond.soleField "KindTables$Law" "strengths" ∈ tw := tw_1 (i := 128) rfl rfl
theorem tm1_129 : Cond.lays "KindTables$Law" "KindTables$Law" "rows" "I" ∈ tw := tw_1 (i := 129) rfl rfl
theorem tm1_130 : Cond.soleField "KindTables$Law" "rows" ∈ tw := tw_1 (i := 130) rfl rfl
theorem tm1_131 : Cond.superclass "KindTables$Law" "java/lang/Object" ∈ tw := tw_1 (i := 131) rfl rfl
theorem tm1_132 : Cond.fieldLink "KindTables" 18 "KindTables" "kinds" "I" ∈ tw := tw_1 (i := 132) rfl rfl
theorem tm1_133 : Cond.fieldLink "KindTables" 22 "KindTables" "features" "I" ∈ tw := tw_1 (i := 133) rfl rfl
theorem tm1_134 : Cond.fieldLink "KindTables" 30 "KindTables" "examples" "LKindTables$Examples;" ∈ tw := tw_1 (i := 134) rfl rfl
theorem tm1_135 : Cond.fieldLink "KindTables" 39 "KindTables" "teller" "LKindTables$Teller;" ∈ tw := tw_1 (i := 135) rfl rfl
theorem tm1_136 : Cond.fieldLink "KindTables" 46 "KindTables" "hauls" "LKindTables$Hauls;" ∈ tw := tw_1 (i := 136) rfl rfl
theorem tm1_137 : Cond.fieldLink "KindTables" 52 "KindTables" "laws" "[LKindTables$Law;" ∈ tw := tw_1 (i := 137) rfl rfl
theorem tm1_138 : Cond.laysFinal "KindTables" "KindTables" "kinds" "I" ∈ tw := tw_1 (i := 138) rfl rfl
theorem tm1_139 : Cond.soleField "KindTables" "kinds" ∈ tw := tw_1 (i := 139) rfl rfl
theorem tm1_140 : Cond.laysFinal "KindTables" "KindTables" "features" "I" ∈ tw := tw_1 (i := 140) rfl rfl
theorem tm1_141 : Cond.soleField "KindTables" "features" ∈ tw := tw_1 (i := 141) rfl rfl
theorem tm1_142 : Cond.laysFinal "KindTables" "KindTables" "examples" "LKindTables$Examples;" ∈ tw := tw_1 (i := 142) rfl rfl
theorem tm1_143 : Cond.soleField "KindTables" "examples" ∈ tw := tw_1 (i := 143) rfl rfl
theorem tm1_144 : Cond.laysFinal "KindTables" "KindTables" "teller" "LKindTables$Teller;" ∈ tw := tw_1 (i := 144) rfl rfl
theorem tm1_145 : Cond.soleField "KindTables" "teller" ∈ tw := tw_1 (i := 145) rfl rfl
theorem tm1_146 : Cond.laysFinal "KindTables" "KindTables" "hauls" "LKindTables$Hauls;" ∈ tw := tw_1 (i := 146) rfl rfl
theorem tm1_147 : Cond.soleField "KindTables" "hauls" ∈ tw := tw_1 (i := 147) rfl rfl
theorem tm1_148 : Cond.laysFinal "KindTables" "KindTables" "laws" "[LKindTables$Law;" ∈ tw := tw_1 (i := 148) rfl rfl
theorem tm1_149 : Cond.soleField "KindTables" "laws" ∈ tw := tw_1 (i := 149) rfl rfl
theorem tm1_150 : Cond.superclass "KindTables" "java/lang/Object" ∈ tw := tw_1 (i := 150) rfl rfl
theorem tm1_151 : Cond.methodLink "KindTablesLaw" 140 ⟨"KindTables", "unknown", "()I"⟩ ∈ tw := tw_1 (i := 151) rfl rfl
theorem tm1_152 : Cond.instanceMethod ⟨"KindTables", "unknown", "()I"⟩ ∈ tw := tw_1 (i := 152) rfl rfl
theorem tm1_153 : Cond.selects "KindTables" ⟨"KindTables", "unknown", "()I"⟩ ⟨"KindTables", "unknown", "()I"⟩ ∈ tw := tw_1 (i := 153) rfl rfl
theorem tm1_154 : Cond.code ⟨"KindTables", "unknown", "()I"⟩ prog_1_method_14_code 1 (some .int) ∈ tw := tw_1 (i := 154) rfl rfl
theorem tm1_155 : Cond.methodLink "KindTables" 132 ⟨"KindTables$Teller", "countUnknown", "()I"⟩ ∈ tw := tw_1 (i := 155) rfl rfl
theorem tm1_156 : Cond.instanceMethod ⟨"KindTables$Teller", "countUnknown", "()I"⟩ ∈ tw := tw_1 (i := 156) rfl rfl
theorem tm1_157 : Cond.selects "KindTables$Teller" ⟨"KindTables$Teller", "countUnknown", "()I"⟩ ⟨"KindTables$Teller", "countUnknown", "()I"⟩ ∈ tw := tw_1 (i := 157) rfl rfl
theorem tm1_158 : Cond.code ⟨"KindTables$Teller", "countUnknown", "()I"⟩ prog_5_method_9_code 3 (some .int) ∈ tw := tw_1 (i := 158) rfl rfl
theorem tm1_159 : Cond.methodLink "KindTables$Teller" 59 ⟨"KindTables$Teller", "told", "(I)I"⟩ ∈ tw := tw_1 (i := 159) rfl rfl
theorem tm1_160 : Cond.instanceMethod ⟨"KindTables$Teller", "told", "(I)I"⟩ ∈ tw := tw_1 (i := 160) rfl rfl
theorem tm1_161 : Cond.selects "KindTables$Teller" ⟨"KindTables$Teller", "told", "(I)I"⟩ ⟨"KindTables$Teller", "told", "(I)I"⟩ ∈ tw := tw_1 (i := 161) rfl rfl
theorem tm1_162 : Cond.code ⟨"KindTables$Teller", "told", "(I)I"⟩ prog_5_method_5_code 2 (some .int) ∈ tw := tw_1 (i := 162) rfl rfl
theorem tm1_163 : Cond.methodLink "KindTables$Teller" 45 ⟨"KindTables$Teller", "toldBy", "(III)I"⟩ ∈ tw := tw_1 (i := 163) rfl rfl
theorem tm1_165 : Cond.instanceMethod ⟨"KindTables$Teller", "toldBy", "(III)I"⟩ ∈ tw := tw_1 (i := 165) rfl rfl
theorem tm1_166 : Cond.code ⟨"KindTables$Teller", "toldBy", "(III)I"⟩ prog_5_method_7_code 6 (some .int) ∈ tw := tw_1 (i := 166) rfl rfl
theorem tm1_167 : Cond.methodLink "KindTables$Teller" 41 ⟨"KindTables$Teller", "takeVotes", "(III)V"⟩ ∈ tw := tw_1 (i := 167) rfl rfl
theorem tm1_169 : Cond.instanceMethod ⟨"KindTables$Teller", "takeVotes", "(III)V"⟩ ∈ tw := tw_1 (i := 169) rfl rfl
theorem tm1_170 : Cond.code ⟨"KindTables$Teller", "takeVotes", "(III)V"⟩ prog_5_method_6_code 6 none ∈ tw := tw_1 (i := 170) rfl rfl
theorem tm1_171 : Cond.methodLink "KindTables$Teller" 55 ⟨"KindTables$Examples", "sameCells", "(IIII)I"⟩ ∈ tw := tw_1 (i := 171) rfl rfl
theorem tm1_172 : Cond.instanceMethod ⟨"KindTables$Examples", "sameCells", "(IIII)I"⟩ ∈ tw := tw_1 (i := 172) rfl rfl
theorem tm1_173 : Cond.selects "KindTables$Examples" ⟨"KindTables$Examples", "sameCells", "(IIII)I"⟩ ⟨"KindTables$Examples", "sameCells", "(IIII)I"⟩ ∈ tw := tw_1 (i := 173) rfl rfl
theorem tm1_174 : Cond.code ⟨"KindTables$Examples", "sameCells", "(IIII)I"⟩ prog_2_method_4_code 7 (some .int) ∈ tw := tw_1 (i := 174) rfl rfl
theorem tm1_175 : Cond.methodLink "KindTables$Examples" 33 ⟨"KindTables$Examples", "cellOf", "(II)I"⟩ ∈ tw := tw_1 (i := 175) rfl rfl
theorem tm1_176 : Cond.instanceMethod ⟨"KindTables$Examples", "cellOf", "(II)I"⟩ ∈ tw := tw_1 (i := 176) rfl rfl
theorem tm1_177 : Cond.selects "KindTables$Examples" ⟨"KindTables$Examples", "cellOf", "(II)I"⟩ ⟨"KindTables$Examples", "cellOf", "(II)I"⟩ ∈ tw := tw_1 (i := 177) rfl rfl
theorem tm1_178 : Cond.code ⟨"KindTables$Examples", "cellOf", "(II)I"⟩ prog_2_method_3_code 3 (some .int) ∈ tw := tw_1 (i := 178) rfl rfl
theorem tm1_179 : Cond.methodLink "KindTablesLaw" 175 ⟨"KindTables", "count", "(I)I"⟩ ∈ tw := tw_1 (i := 179) rfl rfl
theorem tm1_180 : Cond.instanceMethod ⟨"KindTables", "count", "(I)I"⟩ ∈ tw := tw_1 (i := 180) rfl rfl
theorem tm1_181 : Cond.selects "KindTables" ⟨"KindTables", "count", "(I)I"⟩ ⟨"KindTables", "count", "(I)I"⟩ ∈ tw := tw_1 (i := 181) rfl rfl
theorem tm1_182 : Cond.code ⟨"KindTables", "count", "(I)I"⟩ prog_1_method_25_code 2 (some .int) ∈ tw := tw_1 (i := 182) rfl rfl
theorem tm1_183 : Cond.methodLink "KindTables" 119 ⟨"KindTables$Examples", "countTaught", "(I)I"⟩ ∈ tw := tw_1 (i := 183) rfl rfl
theorem tm1_184 : Cond.instanceMethod ⟨"KindTables$Examples", "countTaught", "(I)I"⟩ ∈ tw := tw_1 (i := 184) rfl rfl
theorem tm1_185 : Cond.selects "KindTables$Examples" ⟨"KindTables$Examples", "countTaught", "(I)I"⟩ ⟨"KindTables$Examples", "countTaught", "(I)I"⟩ ∈ tw := tw_1 (i := 185) rfl rfl
theorem tm1_186 : Cond.code ⟨"KindTables$Examples", "countTaught", "(I)I"⟩ prog_2_method_5_code 4 (some .int) ∈ tw := tw_1 (i := 186) rfl rfl
theorem tm1_187 : Cond.methodLink "KindTablesLaw" 86 ⟨"KindTablesLaw", "cell", "([II)I"⟩ ∈ tw := tw_1 (i := 187) rfl rfl
theorem tm1_188 : Cond.static ⟨"KindTablesLaw", "cell", "([II)I"⟩ ∈ tw := tw_1 (i := 188) rfl rfl
theorem tm1_189 : Cond.code ⟨"KindTablesLaw", "cell", "([II)I"⟩ method_2_code 2 (some .int) ∈ tw := tw_1 (i := 189) rfl rfl
theorem tm1_190 : Cond.methodLink "KindTablesLaw" 97 ⟨"KindTablesLaw", "example", "(LKindTables;I[J)I"⟩ ∈ tw := tw_1 (i := 190) rfl rfl
theorem tm1_191 : Cond.static ⟨"KindTablesLaw", "example", "(LKindTables;I[J)I"⟩ ∈ tw := tw_1 (i := 191) rfl rfl
theorem tm1_192 : Cond.codeWith ⟨"KindTablesLaw", "example", "(LKindTables;I[J)I"⟩ method_3_code 4 (some .int) [(0, 9, 12, 13), (0, 9, 15, 15)] ∈ tw := tw_1 (i := 192) rfl rfl
theorem tm1_193 : Cond.classLink "KindTablesLaw" 13 "java/lang/IndexOutOfBoundsException" ∈ tw := tw_1 (i := 193) rfl rfl
theorem tm1_194 : Cond.classLink "KindTablesLaw" 15 "java/lang/IllegalStateException" ∈ tw := tw_1 (i := 194) rfl rfl
theorem tm1_195 : Cond.methodLink "KindTablesLaw" 7 ⟨"KindTables", "example", "(I)I"⟩ ∈ tw := tw_1 (i := 195) rfl rfl
theorem tm1_196 : Cond.instanceMethod ⟨"KindTables", "example", "(I)I"⟩ ∈ tw := tw_1 (i := 196) rfl rfl
theorem tm1_197 : Cond.selects "KindTables" ⟨"KindTables", "example", "(I)I"⟩ ⟨"KindTables", "example", "(I)I"⟩ ∈ tw := tw_1 (i := 197) rfl rfl
theorem tm1_198 : Cond.code ⟨"KindTables", "example", "(I)I"⟩ prog_1_method_2_code 2 (some .int) ∈ tw := tw_1 (i := 198) rfl rfl
theorem tm1_199 : Cond.methodLink "KindTables" 57 ⟨"KindTables", "needKindOrNone", "(I)V"⟩ ∈ tw := tw_1 (i := 199) rfl rfl
theorem tm1_201 : Cond.instanceMethod ⟨"KindTables", "needKindOrNone", "(I)V"⟩ ∈ tw := tw_1 (i := 201) rfl rfl
theorem tm1_202 : Cond.code ⟨"KindTables", "needKindOrNone", "(I)V"⟩ prog_1_method_27_code 2 none ∈ tw := tw_1 (i := 202) rfl rfl
theorem tm1_203 : Cond.methodLink "KindTables" 98 ⟨"KindTables", "needKind", "(I)V"⟩ ∈ tw := tw_1 (i := 203) rfl rfl
theorem tm1_205 : Cond.instanceMethod ⟨"KindTables", "needKind", "(I)V"⟩ ∈ tw := tw_1 (i := 205) rfl rfl
theorem tm1_206 : Cond.code ⟨"KindTables", "needKind", "(I)V"⟩ prog_1_method_26_code 2 none ∈ tw := tw_1 (i := 206) rfl rfl
theorem tm1_207 : Cond.classLink "KindTables" 186 "java/lang/IndexOutOfBoundsException" ∈ tw := tw_1 (i := 207) rfl rfl
theorem tm1_208 : Cond.instantiable "java/lang/IndexOutOfBoundsException" 6 ∈ tw := tw_1 (i := 208) rfl rfl
theorem tm1_216 : Cond.selects "java/lang/IndexOutOfBoundsException" ⟨"java/lang/Throwable", "fillInStackTrace", "(I)Ljava/lang/Throwable;"⟩ ⟨"java/lang/Throwable", "fillInStackTrace", "(I)Ljava/lang/Throwable;"⟩ ∈ tw := tw_1 (i := 216) rfl rfl
theorem tm1_217 : Cond.selects "java/lang/IndexOutOfBoundsException" ⟨"java/lang/Throwable", "fillInStackTrace", "()Ljava/lang/Throwable;"⟩ ⟨"java/lang/Throwable", "fillInStackTrace", "()Ljava/lang/Throwable;"⟩ ∈ tw := tw_1 (i := 217) rfl rfl
theorem tm1_218 : Cond.lays "java/lang/IndexOutOfBoundsException" "java/lang/Throwable" "cause" "Ljava/lang/Throwable;" ∈ tw := tw_1 (i := 218) rfl rfl
theorem tm1_219 : Cond.lays "java/lang/Throwable" "java/lang/Throwable" "cause" "Ljava/lang/Throwable;" ∈ tw := tw_1 (i := 219) rfl rfl
theorem tm1_220 : Cond.lays "java/lang/IndexOutOfBoundsException" "java/lang/Throwable" "stackTrace" "[Ljava/lang/StackTraceElement;" ∈ tw := tw_1 (i := 220) rfl rfl
theorem tm1_221 : Cond.lays "java/lang/Throwable" "java/lang/Throwable" "stackTrace" "[Ljava/lang/StackTraceElement;" ∈ tw := tw_1 (i := 221) rfl rfl
theorem tm1_222 : Cond.lays "java/lang/IndexOutOfBoundsException" "java/lang/Throwable" "suppressedExceptions" "Ljava/util/List;" ∈ tw := tw_1 (i := 222) rfl rfl
theorem tm1_223 : Cond.lays "java/lang/Throwable" "java/lang/Throwable" "suppressedExceptions" "Ljava/util/List;" ∈ tw := tw_1 (i := 223) rfl rfl
theorem tm1_224 : Cond.lays "java/lang/IndexOutOfBoundsException" "java/lang/Throwable" "detailMessage" "Ljava/lang/String;" ∈ tw := tw_1 (i := 224) rfl rfl
theorem tm1_225 : Cond.lays "java/lang/Throwable" "java/lang/Throwable" "detailMessage" "Ljava/lang/String;" ∈ tw := tw_1 (i := 225) rfl rfl
theorem tm1_226 : Cond.lays "java/lang/IndexOutOfBoundsException" "java/lang/Throwable" "backtrace" "Ljava/lang/Object;" ∈ tw := tw_1 (i := 226) rfl rfl
theorem tm1_227 : Cond.lays "java/lang/Throwable" "java/lang/Throwable" "backtrace" "Ljava/lang/Object;" ∈ tw := tw_1 (i := 227) rfl rfl
theorem tm1_228 : Cond.fieldLink "java/lang/Throwable" 198 "java/lang/Throwable" "backtrace" "Ljava/lang/Object;" ∈ tw := tw_1 (i := 228) rfl rfl
theorem tm1_229 : Cond.superclass "java/lang/Throwable" "java/lang/Object" ∈ tw := tw_1 (i := 229) rfl rfl
theorem tm1_230 : Cond.instanceMethod ⟨"java/lang/Throwable", "<init>", "()V"⟩ ∈ tw := tw_1 (i := 230) rfl rfl
theorem tm1_231 : Cond.code ⟨"java/lang/Throwable", "<init>", "()V"⟩ prog_15_method_1_code 1 none ∈ tw := tw_1 (i := 231) rfl rfl
theorem tm1_232 : Cond.methodLink "java/lang/Throwable" 1 ⟨"java/lang/Object", "<init>", "()V"⟩ ∈ tw := tw_1 (i := 232) rfl rfl
theorem tm1_233 : Cond.fieldLink "java/lang/Throwable" 13 "java/lang/Throwable" "UNASSIGNED_STACK" "[Ljava/lang/StackTraceElement;" ∈ tw := tw_1 (i := 233) rfl rfl
theorem tm1_235 : Cond.fieldLink "java/lang/Throwable" 20 "java/lang/Throwable" "SUPPRESSED_SENTINEL" "Ljava/util/List;" ∈ tw := tw_1 (i := 235) rfl rfl
theorem tm1_237 : Cond.methodLink "java/lang/Throwable" 27 ⟨"java/lang/Throwable", "fillInStackTrace", "()Ljava/lang/Throwable;"⟩ ∈ tw := tw_1 (i := 237) rfl rfl
theorem tm1_238 : Cond.instanceMethod ⟨"java/lang/Throwable", "fillInStackTrace", "()Ljava/lang/Throwable;"⟩ ∈ tw := tw_1 (i := 238) rfl rfl
theorem tm1_239 : Cond.sameMethod "java/lang/Throwable" "java/lang/Throwable" "fillInStackTrace" "()Ljava/lang/Throwable;" ∈ tw := tw_1 (i := 239) rfl rfl
theorem tm2_0 : Cond.selects "java/lang/IllegalArgumentException" ⟨"java/lang/Throwable", "fillInStackTrace", "()Ljava/lang/Throwable;"⟩ ⟨"java/lang/Throwable", "fillInStackTrace", "()Ljava/lang/Throwable;"⟩ ∈ tw := tw_2 (i := 0) rfl rfl
theorem tm2_1 : Cond.selects "java/lang/IllegalStateException" ⟨"java/lang/Throwable", "fillInStackTrace", "()Ljava/lang/Throwable;"⟩ ⟨"java/lang/Throwable", "fillInStackTrace", "()Ljava/lang/Throwable;"⟩ ∈ tw := tw_2 (i := 1) rfl rfl
theorem tm2_2 : Cond.codeSync ⟨"java/lang/Throwable", "fillInStackTrace", "()Ljava/lang/Throwable;"⟩ prog_15_method_18_code 1 (some (.object "java/lang/Throwable")) ∈ tw := tw_2 (i := 2) rfl rfl
theorem tm2_3 : Cond.methodLink "java/lang/Throwable" 202 ⟨"java/lang/Throwable", "fillInStackTrace", "(I)Ljava/lang/Throwable;"⟩ ∈ tw := tw_2 (i := 3) rfl rfl
theorem tm2_5 : Cond.instanceMethod ⟨"java/lang/Throwable", "fillInStackTrace", "(I)Ljava/lang/Throwable;"⟩ ∈ tw := tw_2 (i := 5) rfl rfl
theorem tm2_6 : Cond.instantiable "java/lang/Throwable" 6 ∈ tw := tw_2 (i := 6) rfl rfl
theorem tm2_7 : Cond.native ⟨"java/lang/Throwable", "fillInStackTrace", "(I)Ljava/lang/Throwable;"⟩ ∈ tw := tw_2 (i := 7) rfl rfl
theorem tm2_9 : Cond.methodLink "KindTables" 190 ⟨"java/lang/IndexOutOfBoundsException", "<init>", "(Ljava/lang/String;)V"⟩ ∈ tw := tw_2 (i := 9) rfl rfl
theorem tm2_10 : Cond.instanceMethod ⟨"java/lang/IndexOutOfBoundsException", "<init>", "(Ljava/lang/String;)V"⟩ ∈ tw := tw_2 (i := 10) rfl rfl
theorem tm2_11 : Cond.code ⟨"java/lang/IndexOutOfBoundsException", "<init>", "(Ljava/lang/String;)V"⟩ prog_11_method_2_code 2 none ∈ tw := tw_2 (i := 11) rfl rfl
theorem tm2_12 : Cond.methodLink "java/lang/IndexOutOfBoundsException" 7 ⟨"java/lang/RuntimeException", "<init>", "(Ljava/lang/String;)V"⟩ ∈ tw := tw_2 (i := 12) rfl rfl
theorem tm2_13 : Cond.instanceMethod ⟨"java/lang/RuntimeException", "<init>", "(Ljava/lang/String;)V"⟩ ∈ tw := tw_2 (i := 13) rfl rfl
theorem tm2_14 : Cond.code ⟨"java/lang/RuntimeException", "<init>", "(Ljava/lang/String;)V"⟩ prog_13_method_2_code 2 none ∈ tw := tw_2 (i := 14) rfl rfl
theorem tm2_15 : Cond.methodLink "java/lang/RuntimeException" 7 ⟨"java/lang/Exception", "<init>", "(Ljava/lang/String;)V"⟩ ∈ tw := tw_2 (i := 15) rfl rfl
theorem tm2_16 : Cond.instanceMethod ⟨"java/lang/Exception", "<init>", "(Ljava/lang/String;)V"⟩ ∈ tw := tw_2 (i := 16) rfl rfl
theorem tm2_17 : Cond.code ⟨"java/lang/Exception", "<init>", "(Ljava/lang/String;)V"⟩ prog_8_method_2_code 2 none ∈ tw := tw_2 (i := 17) rfl rfl
theorem tm2_18 : Cond.methodLink "java/lang/Exception" 7 ⟨"java/lang/Throwable", "<init>", "(Ljava/lang/String;)V"⟩ ∈ tw := tw_2 (i := 18) rfl rfl
theorem tm2_19 : Cond.instanceMethod ⟨"java/lang/Throwable", "<init>", "(Ljava/lang/String;)V"⟩ ∈ tw := tw_2 (i := 19) rfl rfl
theorem tm2_20 : Cond.code ⟨"java/lang/Throwable", "<init>", "(Ljava/lang/String;)V"⟩ prog_15_method_2_code 2 none ∈ tw := tw_2 (i := 20) rfl rfl
theorem tm2_21 : Cond.fieldLink "java/lang/Throwable" 198 "java/lang/Throwable" "backtrace" "Ljava/lang/Object;" ∈ tw := tw_2 (i := 21) rfl rfl
theorem tm2_22 : Cond.fieldLink "java/lang/Throwable" 31 "java/lang/Throwable" "detailMessage" "Ljava/lang/String;" ∈ tw := tw_2 (i := 22) rfl rfl
theorem tm2_23 : Cond.fieldLink "java/lang/Throwable" 7 "java/lang/Throwable" "cause" "Ljava/lang/Throwable;" ∈ tw := tw_2 (i := 23) rfl rfl
theorem tm2_24 : Cond.fieldLink "java/lang/Throwable" 17 "java/lang/Throwable" "stackTrace" "[Ljava/lang/StackTraceElement;" ∈ tw := tw_2 (i := 24) rfl rfl
theorem tm2_25 : Cond.fieldLink "java/lang/Throwable" 24 "java/lang/Throwable" "suppressedExceptions" "Ljava/util/List;" ∈ tw := tw_2 (i := 25) rfl rfl
theorem tm2_26 : Cond.soleField "java/lang/Throwable" "backtrace" ∈ tw := tw_2 (i := 26) rfl rfl
theorem tm2_27 : Cond.soleField "java/lang/Throwable" "detailMessage" ∈ tw := tw_2 (i := 27) rfl rfl
theorem tm2_28 : Cond.soleField "java/lang/Throwable" "cause" ∈ tw := tw_2 (i := 28) rfl rfl
theorem tm2_29 : Cond.soleField "java/lang/Throwable" "stackTrace" ∈ tw := tw_2 (i := 29) rfl rfl
theorem tm2_30 : Cond.lays "java/lang/IndexOutOfBoundsException" "java/lang/Throwable" "depth" "I" ∈ tw := tw_2 (i := 30) rfl rfl
theorem tm2_31 : Cond.soleField "java/lang/Throwable" "depth" ∈ tw := tw_2 (i := 31) rfl rfl
theorem tm2_32 : Cond.soleField "java/lang/Throwable" "suppressedExceptions" ∈ tw := tw_2 (i := 32) rfl rfl
theorem tm2_33 : Cond.superclass "java/lang/IndexOutOfBoundsException" "java/lang/RuntimeException" ∈ tw := tw_2 (i := 33) rfl rfl
theorem tm2_34 : Cond.arrayClass .byte ∈ tw := tw_2 (i := 34) rfl rfl
theorem tm2_35 : Cond.classLink "KindTables" 63 "java/lang/IllegalStateException" ∈ tw := tw_2 (i := 35) rfl rfl
theorem tm2_36 : Cond.instantiable "java/lang/IllegalStateException" 6 ∈ tw := tw_2 (i := 36) rfl rfl
theorem tm2_38 : Cond.selects "java/lang/IllegalStateException" ⟨"java/lang/Throwable", "fillInStackTrace", "(I)Ljava/lang/Throwable;"⟩ ⟨"java/lang/Throwable", "fillInStackTrace", "(I)Ljava/lang/Throwable;"⟩ ∈ tw := tw_2 (i := 38) rfl rfl
theorem tm2_39 : Cond.lays "java/lang/IllegalStateException" "java/lang/Throwable" "cause" "Ljava/lang/Throwable;" ∈ tw := tw_2 (i := 39) rfl rfl
theorem tm2_40 : Cond.lays "java/lang/IllegalStateException" "java/lang/Throwable" "stackTrace" "[Ljava/lang/StackTraceElement;" ∈ tw := tw_2 (i := 40) rfl rfl
theorem tm2_41 : Cond.lays "java/lang/IllegalStateException" "java/lang/Throwable" "suppressedExceptions" "Ljava/util/List;" ∈ tw := tw_2 (i := 41) rfl rfl
theorem tm2_42 : Cond.lays "java/lang/IllegalStateException" "java/lang/Throwable" "detailMessage" "Ljava/lang/String;" ∈ tw := tw_2 (i := 42) rfl rfl
theorem tm2_43 : Cond.lays "java/lang/IllegalStateException" "java/lang/Throwable" "backtrace" "Ljava/lang/Object;" ∈ tw := tw_2 (i := 43) rfl rfl
theorem tm2_45 : Cond.methodLink "KindTables" 67 ⟨"java/lang/IllegalStateException", "<init>", "(Ljava/lang/String;)V"⟩ ∈ tw := tw_2 (i := 45) rfl rfl
theorem tm2_46 : Cond.instanceMethod ⟨"java/lang/IllegalStateException", "<init>", "(Ljava/lang/String;)V"⟩ ∈ tw := tw_2 (i := 46) rfl rfl
theorem tm2_47 : Cond.code ⟨"java/lang/IllegalStateException", "<init>", "(Ljava/lang/String;)V"⟩ prog_10_method_2_code 2 none ∈ tw := tw_2 (i := 47) rfl rfl
theorem tm2_48 : Cond.methodLink "java/lang/IllegalStateException" 7 ⟨"java/lang/RuntimeException", "<init>", "(Ljava/lang/String;)V"⟩ ∈ tw := tw_2 (i := 48) rfl rfl
theorem tm2_49 : Cond.lays "java/lang/IllegalStateException" "java/lang/Throwable" "depth" "I" ∈ tw := tw_2 (i := 49) rfl rfl
theorem tm2_50 : Cond.superclass "java/lang/IllegalStateException" "java/lang/RuntimeException" ∈ tw := tw_2 (i := 50) rfl rfl
theorem tm2_51 : Cond.methodLink "KindTables" 70 ⟨"KindTables$Examples", "add", "(I)I"⟩ ∈ tw := tw_2 (i := 51) rfl rfl
theorem tm2_52 : Cond.instanceMethod ⟨"KindTables$Examples", "add", "(I)I"⟩ ∈ tw := tw_2 (i := 52) rfl rfl
theorem tm2_53 : Cond.selects "KindTables$Examples" ⟨"KindTables$Examples", "add", "(I)I"⟩ ⟨"KindTables$Examples", "add", "(I)I"⟩ ∈ tw := tw_2 (i := 53) rfl rfl
theorem tm2_54 : Cond.code ⟨"KindTables$Examples", "add", "(I)I"⟩ prog_2_method_2_code 2 (some .int) ∈ tw := tw_2 (i := 54) rfl rfl
theorem tm2_55 : Cond.methodLink "KindTablesLaw" 105 ⟨"KindTablesLaw", "value", "(LKindTables;III[J)I"⟩ ∈ tw := tw_2 (i := 55) rfl rfl
theorem tm2_56 : Cond.static ⟨"KindTablesLaw", "value", "(LKindTables;III[J)I"⟩ ∈ tw := tw_2 (i := 56) rfl rfl
theorem tm2_57 : Cond.codeWith ⟨"KindTablesLaw", "value", "(LKindTables;III[J)I"⟩ method_4_code 6 (some .int) [(0, 19, 22, 13), (0, 19, 26, 21)] ∈ tw := tw_2 (i := 57) rfl rfl
theorem tm2_58 : Cond.classLink "KindTablesLaw" 21 "java/lang/IllegalArgumentException" ∈ tw := tw_2 (i := 58) rfl rfl
theorem tm2_59 : Cond.methodLink "KindTablesLaw" 17 ⟨"KindTables", "value", "(III)Z"⟩ ∈ tw := tw_2 (i := 59) rfl rfl
theorem tm2_60 : Cond.instanceMethod ⟨"KindTables", "value", "(III)Z"⟩ ∈ tw := tw_2 (i := 60) rfl rfl
theorem tm2_61 : Cond.selects "KindTables" ⟨"KindTables", "value", "(III)Z"⟩ ⟨"KindTables", "value", "(III)Z"⟩ ∈ tw := tw_2 (i := 61) rfl rfl
theorem tm2_62 : Cond.code ⟨"KindTables", "value", "(III)Z"⟩ prog_1_method_3_code 5 (some .boolean) ∈ tw := tw_2 (i := 62) rfl rfl
theorem tm2_63 : Cond.methodLink "KindTables" 74 ⟨"KindTables", "needExample", "(I)V"⟩ ∈ tw := tw_2 (i := 63) rfl rfl
theorem tm2_65 : Cond.instanceMethod ⟨"KindTables", "needExample", "(I)V"⟩ ∈ tw := tw_2 (i := 65) rfl rfl
theorem tm2_66 : Cond.code ⟨"KindTables", "needExample", "(I)V"⟩ prog_1_method_29_code 2 none ∈ tw := tw_2 (i := 66) rfl rfl
theorem tm2_68 : Cond.methodLink "KindTables" 77 ⟨"KindTables", "needFeature", "(I)V"⟩ ∈ tw := tw_2 (i := 68) rfl rfl
theorem tm2_70 : Cond.instanceMethod ⟨"KindTables", "needFeature", "(I)V"⟩ ∈ tw := tw_2 (i := 70) rfl rfl
theorem tm2_71 : Cond.code ⟨"KindTables", "needFeature", "(I)V"⟩ prog_1_method_28_code 2 none ∈ tw := tw_2 (i := 71) rfl rfl
theorem tm2_73 : Cond.methodLink "KindTables" 80 ⟨"KindTables", "needWithin", "(III)V"⟩ ∈ tw := tw_2 (i := 73) rfl rfl
theorem tm2_74 : Cond.static ⟨"KindTables", "needWithin", "(III)V"⟩ ∈ tw := tw_2 (i := 74) rfl rfl
theorem tm2_75 : Cond.code ⟨"KindTables", "needWithin", "(III)V"⟩ prog_1_method_32_code 3 none ∈ tw := tw_2 (i := 75) rfl rfl
theorem tm2_76 : Cond.classLink "KindTables" 139 "java/lang/IllegalArgumentException" ∈ tw := tw_2 (i := 76) rfl rfl
theorem tm2_77 : Cond.instantiable "java/lang/IllegalArgumentException" 6 ∈ tw := tw_2 (i := 77) rfl rfl
theorem tm2_79 : Cond.selects "java/lang/IllegalArgumentException" ⟨"java/lang/Throwable", "fillInStackTrace", "(I)Ljava/lang/Throwable;"⟩ ⟨"java/lang/Throwable", "fillInStackTrace", "(I)Ljava/lang/Throwable;"⟩ ∈ tw := tw_2 (i := 79) rfl rfl
theorem tm2_80 : Cond.lays "java/lang/IllegalArgumentException" "java/lang/Throwable" "cause" "Ljava/lang/Throwable;" ∈ tw := tw_2 (i := 80) rfl rfl
theorem tm2_81 : Cond.lays "java/lang/IllegalArgumentException" "java/lang/Throwable" "stackTrace" "[Ljava/lang/StackTraceElement;" ∈ tw := tw_2 (i := 81) rfl rfl
theorem tm2_82 : Cond.lays "java/lang/IllegalArgumentException" "java/lang/Throwable" "suppressedExceptions" "Ljava/util/List;" ∈ tw := tw_2 (i := 82) rfl rfl
theorem tm2_83 : Cond.lays "java/lang/IllegalArgumentException" "java/lang/Throwable" "detailMessage" "Ljava/lang/String;" ∈ tw := tw_2 (i := 83) rfl rfl
theorem tm2_84 : Cond.lays "java/lang/IllegalArgumentException" "java/lang/Throwable" "backtrace" "Ljava/lang/Object;" ∈ tw := tw_2 (i := 84) rfl rfl
theorem tm2_86 : Cond.methodLink "KindTables" 143 ⟨"java/lang/IllegalArgumentException", "<init>", "(Ljava/lang/String;)V"⟩ ∈ tw := tw_2 (i := 86) rfl rfl
theorem tm2_87 : Cond.instanceMethod ⟨"java/lang/IllegalArgumentException", "<init>", "(Ljava/lang/String;)V"⟩ ∈ tw := tw_2 (i := 87) rfl rfl
theorem tm2_88 : Cond.code ⟨"java/lang/IllegalArgumentException", "<init>", "(Ljava/lang/String;)V"⟩ prog_9_method_2_code 2 none ∈ tw := tw_2 (i := 88) rfl rfl
theorem tm2_89 : Cond.methodLink "java/lang/IllegalArgumentException" 7 ⟨"java/lang/RuntimeException", "<init>", "(Ljava/lang/String;)V"⟩ ∈ tw := tw_2 (i := 89) rfl rfl
theorem tm2_90 : Cond.lays "java/lang/IllegalArgumentException" "java/lang/Throwable" "depth" "I" ∈ tw := tw_2 (i := 90) rfl rfl
theorem tm2_91 : Cond.superclass "java/lang/IllegalArgumentException" "java/lang/RuntimeException" ∈ tw := tw_2 (i := 91) rfl rfl
theorem tm2_92 : Cond.methodLink "KindTablesLaw" 109 ⟨"KindTablesLaw", "teach", "(LKindTables;II[J)I"⟩ ∈ tw := tw_2 (i := 92) rfl rfl
theorem tm2_93 : Cond.static ⟨"KindTablesLaw", "teach", "(LKindTables;II[J)I"⟩ ∈ tw := tw_2 (i := 93) rfl rfl
theorem tm2_94 : Cond.codeWith ⟨"KindTablesLaw", "teach", "(LKindTables;II[J)I"⟩ method_5_code 5 (some .int) [(0, 10, 13, 13)] ∈ tw := tw_2 (i := 94) rfl rfl
theorem tm2_95 : Cond.methodLink "KindTablesLaw" 23 ⟨"KindTables", "teach", "(II)I"⟩ ∈ tw := tw_2 (i := 95) rfl rfl
theorem tm2_96 : Cond.instanceMethod ⟨"KindTables", "teach", "(II)I"⟩ ∈ tw := tw_2 (i := 96) rfl rfl
theorem tm2_97 : Cond.selects "KindTables" ⟨"KindTables", "teach", "(II)I"⟩ ⟨"KindTables", "teach", "(II)I"⟩ ∈ tw := tw_2 (i := 97) rfl rfl
theorem tm2_98 : Cond.code ⟨"KindTables", "teach", "(II)I"⟩ prog_1_method_4_code 4 (some .int) ∈ tw := tw_2 (i := 98) rfl rfl
theorem tm2_99 : Cond.methodLink "KindTablesLaw" 113 ⟨"KindTablesLaw", "width", "(LKindTables;II[J)I"⟩ ∈ tw := tw_2 (i := 99) rfl rfl
theorem tm2_100 : Cond.static ⟨"KindTablesLaw", "width", "(LKindTables;II[J)I"⟩ ∈ tw := tw_2 (i := 100) rfl rfl
theorem tm2_101 : Cond.codeWith ⟨"KindTablesLaw", "width", "(LKindTables;II[J)I"⟩ method_6_code 5 (some .int) [(0, 10, 13, 13), (0, 10, 17, 21)] ∈ tw := tw_2 (i := 101) rfl rfl
theorem tm2_102 : Cond.methodLink "KindTablesLaw" 27 ⟨"KindTables", "width", "(II)I"⟩ ∈ tw := tw_2 (i := 102) rfl rfl
theorem tm2_103 : Cond.instanceMethod ⟨"KindTables", "width", "(II)I"⟩ ∈ tw := tw_2 (i := 103) rfl rfl
theorem tm2_104 : Cond.selects "KindTables" ⟨"KindTables", "width", "(II)I"⟩ ⟨"KindTables", "width", "(II)I"⟩ ∈ tw := tw_2 (i := 104) rfl rfl
theorem tm2_105 : Cond.code ⟨"KindTables", "width", "(II)I"⟩ prog_1_method_5_code 4 (some .int) ∈ tw := tw_2 (i := 105) rfl rfl
theorem tm2_106 : Cond.methodLink "KindTablesLaw" 116 ⟨"KindTablesLaw", "cell", "(LKindTables;II[J)I"⟩ ∈ tw := tw_2 (i := 106) rfl rfl
theorem tm2_107 : Cond.static ⟨"KindTablesLaw", "cell", "(LKindTables;II[J)I"⟩ ∈ tw := tw_2 (i := 107) rfl rfl
theorem tm2_108 : Cond.codeWith ⟨"KindTablesLaw", "cell", "(LKindTables;II[J)I"⟩ method_7_code 5 (some .int) [(0, 10, 13, 13)] ∈ tw := tw_2 (i := 108) rfl rfl
theorem tm2_109 : Cond.methodLink "KindTablesLaw" 30 ⟨"KindTables", "cell", "(II)I"⟩ ∈ tw := tw_2 (i := 109) rfl rfl
theorem tm2_110 : Cond.instanceMethod ⟨"KindTables", "cell", "(II)I"⟩ ∈ tw := tw_2 (i := 110) rfl rfl
theorem tm2_111 : Cond.selects "KindTables" ⟨"KindTables", "cell", "(II)I"⟩ ⟨"KindTables", "cell", "(II)I"⟩ ∈ tw := tw_2 (i := 111) rfl rfl
theorem tm2_112 : Cond.code ⟨"KindTables", "cell", "(II)I"⟩ prog_1_method_6_code 3 (some .int) ∈ tw := tw_2 (i := 112) rfl rfl
theorem tm2_113 : Cond.methodLink "KindTables" 95 ⟨"KindTables$Examples", "cellOf", "(II)I"⟩ ∈ tw := tw_2 (i := 113) rfl rfl
theorem tm2_114 : Cond.methodLink "KindTablesLaw" 119 ⟨"KindTablesLaw", "votes", "(LKindTables;II[J)I"⟩ ∈ tw := tw_2 (i := 114) rfl rfl
theorem tm2_115 : Cond.static ⟨"KindTablesLaw", "votes", "(LKindTables;II[J)I"⟩ ∈ tw := tw_2 (i := 115) rfl rfl
theorem tm2_116 : Cond.codeWith ⟨"KindTablesLaw", "votes", "(LKindTables;II[J)I"⟩ method_8_code 5 (some .int) [(0, 10, 13, 13)] ∈ tw := tw_2 (i := 116) rfl rfl
theorem tm2_117 : Cond.methodLink "KindTablesLaw" 33 ⟨"KindTables", "votes", "(II)I"⟩ ∈ tw := tw_2 (i := 117) rfl rfl
theorem tm2_118 : Cond.instanceMethod ⟨"KindTables", "votes", "(II)I"⟩ ∈ tw := tw_2 (i := 118) rfl rfl
theorem tm2_119 : Cond.selects "KindTables" ⟨"KindTables", "votes", "(II)I"⟩ ⟨"KindTables", "votes", "(II)I"⟩ ∈ tw := tw_2 (i := 119) rfl rfl
theorem tm2_120 : Cond.code ⟨"KindTables", "votes", "(II)I"⟩ prog_1_method_7_code 3 (some .int) ∈ tw := tw_2 (i := 120) rfl rfl
theorem tm2_121 : Cond.methodLink "KindTables" 101 ⟨"KindTables$Teller", "votesFor", "(II)I"⟩ ∈ tw := tw_2 (i := 121) rfl rfl
theorem tm2_122 : Cond.instanceMethod ⟨"KindTables$Teller", "votesFor", "(II)I"⟩ ∈ tw := tw_2 (i := 122) rfl rfl
theorem tm2_123 : Cond.selects "KindTables$Teller" ⟨"KindTables$Teller", "votesFor", "(II)I"⟩ ⟨"KindTables$Teller", "votesFor", "(II)I"⟩ ∈ tw := tw_2 (i := 123) rfl rfl
theorem tm2_124 : Cond.code ⟨"KindTables$Teller", "votesFor", "(II)I"⟩ prog_5_method_4_code 3 (some .int) ∈ tw := tw_2 (i := 124) rfl rfl
theorem tm2_125 : Cond.methodLink "KindTablesLaw" 122 ⟨"KindTablesLaw", "tell", "(LKindTables;I[J)I"⟩ ∈ tw := tw_2 (i := 125) rfl rfl
theorem tm2_126 : Cond.static ⟨"KindTablesLaw", "tell", "(LKindTables;I[J)I"⟩ ∈ tw := tw_2 (i := 126) rfl rfl
theorem tm2_127 : Cond.codeWith ⟨"KindTablesLaw", "tell", "(LKindTables;I[J)I"⟩ method_9_code 4 (some .int) [(0, 9, 12, 13)] ∈ tw := tw_2 (i := 127) rfl rfl
theorem tm2_128 : Cond.methodLink "KindTablesLaw" 36 ⟨"KindTables", "tell", "(I)I"⟩ ∈ tw := tw_2 (i := 128) rfl rfl
theorem tm2_129 : Cond.instanceMethod ⟨"KindTables", "tell", "(I)I"⟩ ∈ tw := tw_2 (i := 129) rfl rfl
theorem tm2_130 : Cond.selects "KindTables" ⟨"KindTables", "tell", "(I)I"⟩ ⟨"KindTables", "tell", "(I)I"⟩ ∈ tw := tw_2 (i := 130) rfl rfl
theorem tm2_131 : Cond.code ⟨"KindTables", "tell", "(I)I"⟩ prog_1_method_8_code 2 (some .int) ∈ tw := tw_2 (i := 131) rfl rfl
theorem tm2_132 : Cond.methodLink "KindTables" 104 ⟨"KindTables$Teller", "told", "(I)I"⟩ ∈ tw := tw_2 (i := 132) rfl rfl
theorem tm2_133 : Cond.methodLink "KindTablesLaw" 125 ⟨"KindTablesLaw", "bound", "(LKindTables;I[J)I"⟩ ∈ tw := tw_2 (i := 133) rfl rfl
theorem tm2_134 : Cond.static ⟨"KindTablesLaw", "bound", "(LKindTables;I[J)I"⟩ ∈ tw := tw_2 (i := 134) rfl rfl
theorem tm2_135 : Cond.codeWith ⟨"KindTablesLaw", "bound", "(LKindTables;I[J)I"⟩ method_10_code 4 (some .int) [(0, 9, 12, 21)] ∈ tw := tw_2 (i := 135) rfl rfl
theorem tm2_136 : Cond.methodLink "KindTablesLaw" 39 ⟨"KindTables", "bound", "(I)I"⟩ ∈ tw := tw_2 (i := 136) rfl rfl
theorem tm2_137 : Cond.instanceMethod ⟨"KindTables", "bound", "(I)I"⟩ ∈ tw := tw_2 (i := 137) rfl rfl
theorem tm2_138 : Cond.selects "KindTables" ⟨"KindTables", "bound", "(I)I"⟩ ⟨"KindTables", "bound", "(I)I"⟩ ∈ tw := tw_2 (i := 138) rfl rfl
theorem tm2_139 : Cond.code ⟨"KindTables", "bound", "(I)I"⟩ prog_1_method_9_code 3 (some .int) ∈ tw := tw_2 (i := 139) rfl rfl
theorem tm2_140 : Cond.methodLink "KindTablesLaw" 128 ⟨"KindTablesLaw", "prefer", "(LKindTables;I[J)I"⟩ ∈ tw := tw_2 (i := 140) rfl rfl
theorem tm2_141 : Cond.static ⟨"KindTablesLaw", "prefer", "(LKindTables;I[J)I"⟩ ∈ tw := tw_2 (i := 141) rfl rfl
theorem tm2_142 : Cond.codeWith ⟨"KindTablesLaw", "prefer", "(LKindTables;I[J)I"⟩ method_11_code 4 (some .int) [(0, 9, 12, 13)] ∈ tw := tw_2 (i := 142) rfl rfl
theorem tm2_143 : Cond.methodLink "KindTablesLaw" 42 ⟨"KindTables", "prefer", "(I)I"⟩ ∈ tw := tw_2 (i := 143) rfl rfl
theorem tm2_144 : Cond.instanceMethod ⟨"KindTables", "prefer", "(I)I"⟩ ∈ tw := tw_2 (i := 144) rfl rfl
theorem tm2_145 : Cond.selects "KindTables" ⟨"KindTables", "prefer", "(I)I"⟩ ⟨"KindTables", "prefer", "(I)I"⟩ ∈ tw := tw_2 (i := 145) rfl rfl
theorem tm2_146 : Cond.code ⟨"KindTables", "prefer", "(I)I"⟩ prog_1_method_10_code 2 (some .int) ∈ tw := tw_2 (i := 146) rfl rfl
theorem tm2_147 : Cond.methodLink "KindTables" 110 ⟨"KindTables$Teller", "bringToFront", "(I)I"⟩ ∈ tw := tw_2 (i := 147) rfl rfl
theorem tm2_148 : Cond.instanceMethod ⟨"KindTables$Teller", "bringToFront", "(I)I"⟩ ∈ tw := tw_2 (i := 148) rfl rfl
theorem tm2_149 : Cond.selects "KindTables$Teller" ⟨"KindTables$Teller", "bringToFront", "(I)I"⟩ ⟨"KindTables$Teller", "bringToFront", "(I)I"⟩ ∈ tw := tw_2 (i := 149) rfl rfl
theorem tm2_150 : Cond.code ⟨"KindTables$Teller", "bringToFront", "(I)I"⟩ prog_5_method_2_code 4 (some .int) ∈ tw := tw_2 (i := 150) rfl rfl
theorem tm2_151 : Cond.methodLink "KindTables$Teller" 37 ⟨"KindTables$Teller", "placeOf", "(I)I"⟩ ∈ tw := tw_2 (i := 151) rfl rfl
theorem tm2_153 : Cond.instanceMethod ⟨"KindTables$Teller", "placeOf", "(I)I"⟩ ∈ tw := tw_2 (i := 153) rfl rfl
theorem tm2_154 : Cond.code ⟨"KindTables$Teller", "placeOf", "(I)I"⟩ prog_5_method_3_code 3 (some .int) ∈ tw := tw_2 (i := 154) rfl rfl
theorem tm2_155 : Cond.methodLink "KindTablesLaw" 131 ⟨"KindTablesLaw", "wrong", "(LKindTables;III[J)I"⟩ ∈ tw := tw_2 (i := 155) rfl rfl
theorem tm2_156 : Cond.static ⟨"KindTablesLaw", "wrong", "(LKindTables;III[J)I"⟩ ∈ tw := tw_2 (i := 156) rfl rfl
theorem tm2_157 : Cond.codeWith ⟨"KindTablesLaw", "wrong", "(LKindTables;III[J)I"⟩ method_12_code 6 (some .int) [(0, 12, 15, 13)] ∈ tw := tw_2 (i := 157) rfl rfl
theorem tm2_158 : Cond.methodLink "KindTablesLaw" 45 ⟨"KindTables", "wrong", "(III)I"⟩ ∈ tw := tw_2 (i := 158) rfl rfl
theorem tm2_159 : Cond.instanceMethod ⟨"KindTables", "wrong", "(III)I"⟩ ∈ tw := tw_2 (i := 159) rfl rfl
theorem tm2_160 : Cond.selects "KindTables" ⟨"KindTables", "wrong", "(III)I"⟩ ⟨"KindTables", "wrong", "(III)I"⟩ ∈ tw := tw_2 (i := 160) rfl rfl
theorem tm2_161 : Cond.code ⟨"KindTables", "wrong", "(III)I"⟩ prog_1_method_11_code 4 (some .int) ∈ tw := tw_2 (i := 161) rfl rfl
theorem tm2_162 : Cond.methodLink "KindTables" 113 ⟨"KindTables", "needPart", "(I)V"⟩ ∈ tw := tw_2 (i := 162) rfl rfl
theorem tm2_163 : Cond.static ⟨"KindTables", "needPart", "(I)V"⟩ ∈ tw := tw_2 (i := 163) rfl rfl
theorem tm2_164 : Cond.code ⟨"KindTables", "needPart", "(I)V"⟩ prog_1_method_31_code 1 none ∈ tw := tw_2 (i := 164) rfl rfl
theorem tm2_166 : Cond.methodLink "KindTables" 116 ⟨"KindTables$Teller", "countTold", "(II)I"⟩ ∈ tw := tw_2 (i := 166) rfl rfl
theorem tm2_167 : Cond.instanceMethod ⟨"KindTables$Teller", "countTold", "(II)I"⟩ ∈ tw := tw_2 (i := 167) rfl rfl
theorem tm2_168 : Cond.selects "KindTables$Teller" ⟨"KindTables$Teller", "countTold", "(II)I"⟩ ⟨"KindTables$Teller", "countTold", "(II)I"⟩ ∈ tw := tw_2 (i := 168) rfl rfl
theorem tm2_169 : Cond.code ⟨"KindTables$Teller", "countTold", "(II)I"⟩ prog_5_method_8_code 5 (some .int) ∈ tw := tw_2 (i := 169) rfl rfl
theorem tm2_170 : Cond.methodLink "KindTables" 122 ⟨"KindTables", "partOf", "(JJI)J"⟩ ∈ tw := tw_2 (i := 170) rfl rfl
theorem tm2_171 : Cond.static ⟨"KindTables", "partOf", "(JJI)J"⟩ ∈ tw := tw_2 (i := 171) rfl rfl
theorem tm2_172 : Cond.code ⟨"KindTables", "partOf", "(JJI)J"⟩ prog_1_method_34_code 7 (some .long) ∈ tw := tw_2 (i := 172) rfl rfl
theorem tm2_173 : Cond.methodLink "KindTables" 201 ⟨"KindTables", "commonDivisor", "(JJ)J"⟩ ∈ tw := tw_2 (i := 173) rfl rfl
theorem tm2_174 : Cond.static ⟨"KindTables", "commonDivisor", "(JJ)J"⟩ ∈ tw := tw_2 (i := 174) rfl rfl
theorem tm2_175 : Cond.code ⟨"KindTables", "commonDivisor", "(JJ)J"⟩ prog_1_method_35_code 11 (some .long) ∈ tw := tw_2 (i := 175) rfl rfl
theorem tm2_176 : Cond.methodLink "KindTablesLaw" 134 ⟨"KindTablesLaw", "right", "(LKindTables;I[J)I"⟩ ∈ tw := tw_2 (i := 176) rfl rfl
theorem tm2_177 : Cond.static ⟨"KindTablesLaw", "right", "(LKindTables;I[J)I"⟩ ∈ tw := tw_2 (i := 177) rfl rfl
theorem tm2_178 : Cond.codeWith ⟨"KindTablesLaw", "right", "(LKindTables;I[J)I"⟩ method_13_code 4 (some .int) [(0, 9, 12, 13)] ∈ tw := tw_2 (i := 178) rfl rfl
theorem tm2_179 : Cond.methodLink "KindTablesLaw" 49 ⟨"KindTables", "right", "(I)I"⟩ ∈ tw := tw_2 (i := 179) rfl rfl
theorem tm2_180 : Cond.instanceMethod ⟨"KindTables", "right", "(I)I"⟩ ∈ tw := tw_2 (i := 180) rfl rfl
theorem tm2_181 : Cond.selects "KindTables" ⟨"KindTables", "right", "(I)I"⟩ ⟨"KindTables", "right", "(I)I"⟩ ∈ tw := tw_2 (i := 181) rfl rfl
theorem tm2_182 : Cond.code ⟨"KindTables", "right", "(I)I"⟩ prog_1_method_12_code 2 (some .int) ∈ tw := tw_2 (i := 182) rfl rfl
theorem tm2_183 : Cond.methodLink "KindTables" 126 ⟨"KindTables$Teller", "rightBy", "(I)I"⟩ ∈ tw := tw_2 (i := 183) rfl rfl
theorem tm2_184 : Cond.instanceMethod ⟨"KindTables$Teller", "rightBy", "(I)I"⟩ ∈ tw := tw_2 (i := 184) rfl rfl
theorem tm2_185 : Cond.selects "KindTables$Teller" ⟨"KindTables$Teller", "rightBy", "(I)I"⟩ ⟨"KindTables$Teller", "rightBy", "(I)I"⟩ ∈ tw := tw_2 (i := 185) rfl rfl
theorem tm2_186 : Cond.code ⟨"KindTables$Teller", "rightBy", "(I)I"⟩ prog_5_method_10_code 5 (some .int) ∈ tw := tw_2 (i := 186) rfl rfl
theorem tm2_187 : Cond.methodLink "KindTablesLaw" 137 ⟨"KindTablesLaw", "best", "(LKindTables;I[J)I"⟩ ∈ tw := tw_2 (i := 187) rfl rfl
theorem tm2_188 : Cond.static ⟨"KindTablesLaw", "best", "(LKindTables;I[J)I"⟩ ∈ tw := tw_2 (i := 188) rfl rfl
theorem tm2_189 : Cond.codeWith ⟨"KindTablesLaw", "best", "(LKindTables;I[J)I"⟩ method_14_code 4 (some .int) [(0, 9, 12, 13)] ∈ tw := tw_2 (i := 189) rfl rfl
theorem tm2_190 : Cond.methodLink "KindTablesLaw" 52 ⟨"KindTables", "best", "(I)I"⟩ ∈ tw := tw_2 (i := 190) rfl rfl
theorem tm2_191 : Cond.instanceMethod ⟨"KindTables", "best", "(I)I"⟩ ∈ tw := tw_2 (i := 191) rfl rfl
theorem tm2_192 : Cond.selects "KindTables" ⟨"KindTables", "best", "(I)I"⟩ ⟨"KindTables", "best", "(I)I"⟩ ∈ tw := tw_2 (i := 192) rfl rfl
theorem tm2_193 : Cond.code ⟨"KindTables", "best", "(I)I"⟩ prog_1_method_13_code 2 (some .int) ∈ tw := tw_2 (i := 193) rfl rfl
theorem tm2_194 : Cond.methodLink "KindTables" 129 ⟨"KindTables$Teller", "featureAt", "(I)I"⟩ ∈ tw := tw_2 (i := 194) rfl rfl
theorem tm2_195 : Cond.instanceMethod ⟨"KindTables$Teller", "featureAt", "(I)I"⟩ ∈ tw := tw_2 (i := 195) rfl rfl
theorem tm2_196 : Cond.selects "KindTables$Teller" ⟨"KindTables$Teller", "featureAt", "(I)I"⟩ ⟨"KindTables$Teller", "featureAt", "(I)I"⟩ ∈ tw := tw_2 (i := 196) rfl rfl
theorem tm2_197 : Cond.code ⟨"KindTables$Teller", "featureAt", "(I)I"⟩ prog_5_method_11_code 3 (some .int) ∈ tw := tw_2 (i := 197) rfl rfl
theorem tm2_198 : Cond.methodLink "KindTables$Teller" 62 ⟨"KindTables$Teller", "rightBy", "(I)I"⟩ ∈ tw := tw_2 (i := 198) rfl rfl
theorem tm2_199 : Cond.methodLink "KindTables$Teller" 65 ⟨"KindTables$Teller", "countBefore", "(I)I"⟩ ∈ tw := tw_2 (i := 199) rfl rfl
theorem tm2_201 : Cond.instanceMethod ⟨"KindTables$Teller", "countBefore", "(I)I"⟩ ∈ tw := tw_2 (i := 201) rfl rfl
theorem tm2_202 : Cond.code ⟨"KindTables$Teller", "countBefore", "(I)I"⟩ prog_5_method_12_code 5 (some .int) ∈ tw := tw_2 (i := 202) rfl rfl
theorem tm2_203 : Cond.methodLink "KindTablesLaw" 144 ⟨"KindTablesLaw", "mixed", "(LKindTables;II[J)I"⟩ ∈ tw := tw_2 (i := 203) rfl rfl
theorem tm2_204 : Cond.static ⟨"KindTablesLaw", "mixed", "(LKindTables;II[J)I"⟩ ∈ tw := tw_2 (i := 204) rfl rfl
theorem tm2_205 : Cond.codeWith ⟨"KindTablesLaw", "mixed", "(LKindTables;II[J)I"⟩ method_15_code 5 (some .int) [(0, 10, 13, 13)] ∈ tw := tw_2 (i := 205) rfl rfl
theorem tm2_206 : Cond.methodLink "KindTablesLaw" 55 ⟨"KindTables", "mixed", "(II)I"⟩ ∈ tw := tw_2 (i := 206) rfl rfl
theorem tm2_207 : Cond.instanceMethod ⟨"KindTables", "mixed", "(II)I"⟩ ∈ tw := tw_2 (i := 207) rfl rfl
theorem tm2_208 : Cond.selects "KindTables" ⟨"KindTables", "mixed", "(II)I"⟩ ⟨"KindTables", "mixed", "(II)I"⟩ ∈ tw := tw_2 (i := 208) rfl rfl
theorem tm2_209 : Cond.code ⟨"KindTables", "mixed", "(II)I"⟩ prog_1_method_15_code 4 (some .int) ∈ tw := tw_2 (i := 209) rfl rfl
theorem tm2_210 : Cond.methodLink "KindTablesLaw" 147 ⟨"KindTablesLaw", "groups", "(LKindTables;I[J)I"⟩ ∈ tw := tw_2 (i := 210) rfl rfl
theorem tm2_211 : Cond.static ⟨"KindTablesLaw", "groups", "(LKindTables;I[J)I"⟩ ∈ tw := tw_2 (i := 211) rfl rfl
theorem tm2_212 : Cond.codeWith ⟨"KindTablesLaw", "groups", "(LKindTables;I[J)I"⟩ method_16_code 4 (some .int) [(0, 9, 12, 21)] ∈ tw := tw_2 (i := 212) rfl rfl
theorem tm2_213 : Cond.methodLink "KindTablesLaw" 58 ⟨"KindTables", "groups", "(I)I"⟩ ∈ tw := tw_2 (i := 213) rfl rfl
theorem tm2_214 : Cond.instanceMethod ⟨"KindTables", "groups", "(I)I"⟩ ∈ tw := tw_2 (i := 214) rfl rfl
theorem tm2_215 : Cond.selects "KindTables" ⟨"KindTables", "groups", "(I)I"⟩ ⟨"KindTables", "groups", "(I)I"⟩ ∈ tw := tw_2 (i := 215) rfl rfl
theorem tm2_216 : Cond.code ⟨"KindTables", "groups", "(I)I"⟩ prog_1_method_16_code 2 (some .int) ∈ tw := tw_2 (i := 216) rfl rfl
theorem tm2_217 : Cond.methodLink "KindTables" 136 ⟨"KindTables$Examples", "countGroups", "(I)I"⟩ ∈ tw := tw_2 (i := 217) rfl rfl
theorem tm2_218 : Cond.instanceMethod ⟨"KindTables$Examples", "countGroups", "(I)I"⟩ ∈ tw := tw_2 (i := 218) rfl rfl
theorem tm2_219 : Cond.selects "KindTables$Examples" ⟨"KindTables$Examples", "countGroups", "(I)I"⟩ ⟨"KindTables$Examples", "countGroups", "(I)I"⟩ ∈ tw := tw_2 (i := 219) rfl rfl
theorem tm2_220 : Cond.code ⟨"KindTables$Examples", "countGroups", "(I)I"⟩ prog_2_method_10_code 5 (some .int) ∈ tw := tw_2 (i := 220) rfl rfl
theorem tm2_221 : Cond.methodLink "KindTables$Examples" 51 ⟨"KindTables$Examples", "sameCells", "(IIII)I"⟩ ∈ tw := tw_2 (i := 221) rfl rfl
theorem tm2_222 : Cond.methodLink "KindTables$Examples" 55 ⟨"KindTables$Examples", "joinGroups", "(II)V"⟩ ∈ tw := tw_2 (i := 222) rfl rfl
theorem tm2_224 : Cond.instanceMethod ⟨"KindTables$Examples", "joinGroups", "(II)V"⟩ ∈ tw := tw_2 (i := 224) rfl rfl
theorem tm2_225 : Cond.code ⟨"KindTables$Examples", "joinGroups", "(II)V"⟩ prog_2_method_11_code 4 none ∈ tw := tw_2 (i := 225) rfl rfl
theorem tm2_226 : Cond.methodLink "KindTablesLaw" 150 ⟨"KindTablesLaw", "nearest", "(LKindTables;II[J)I"⟩ ∈ tw := tw_2 (i := 226) rfl rfl
theorem tm2_227 : Cond.static ⟨"KindTablesLaw", "nearest", "(LKindTables;II[J)I"⟩ ∈ tw := tw_2 (i := 227) rfl rfl
theorem tm2_228 : Cond.codeWith ⟨"KindTablesLaw", "nearest", "(LKindTables;II[J)I"⟩ method_17_code 5 (some .int) [(0, 10, 13, 13), (0, 10, 17, 21)] ∈ tw := tw_2 (i := 228) rfl rfl
theorem tm2_229 : Cond.methodLink "KindTablesLaw" 61 ⟨"KindTables", "nearest", "(II)I"⟩ ∈ tw := tw_2 (i := 229) rfl rfl
theorem tm2_230 : Cond.instanceMethod ⟨"KindTables", "nearest", "(II)I"⟩ ∈ tw := tw_2 (i := 230) rfl rfl
theorem tm2_231 : Cond.selects "KindTables" ⟨"KindTables", "nearest", "(II)I"⟩ ⟨"KindTables", "nearest", "(II)I"⟩ ∈ tw := tw_2 (i := 231) rfl rfl
theorem tm2_232 : Cond.code ⟨"KindTables", "nearest", "(II)I"⟩ prog_1_method_17_code 3 (some .int) ∈ tw := tw_2 (i := 232) rfl rfl
theorem tm2_234 : Cond.methodLink "KindTables" 144 ⟨"KindTables$Examples", "neighbour", "(II)I"⟩ ∈ tw := tw_2 (i := 234) rfl rfl
theorem tm2_235 : Cond.instanceMethod ⟨"KindTables$Examples", "neighbour", "(II)I"⟩ ∈ tw := tw_2 (i := 235) rfl rfl
theorem tm2_236 : Cond.selects "KindTables$Examples" ⟨"KindTables$Examples", "neighbour", "(II)I"⟩ ⟨"KindTables$Examples", "neighbour", "(II)I"⟩ ∈ tw := tw_2 (i := 236) rfl rfl
theorem tm2_237 : Cond.code ⟨"KindTables$Examples", "neighbour", "(II)I"⟩ prog_2_method_7_code 4 (some .int) ∈ tw := tw_2 (i := 237) rfl rfl
theorem tm2_238 : Cond.methodLink "KindTables$Examples" 41 ⟨"KindTables$Examples", "isCandidate", "(II)Z"⟩ ∈ tw := tw_2 (i := 238) rfl rfl
theorem tm3_0 : Cond.instanceMethod ⟨"KindTables$Examples", "isCandidate", "(II)Z"⟩ ∈ tw := tw_3 (i := 0) rfl rfl
theorem tm3_1 : Cond.code ⟨"KindTables$Examples", "isCandidate", "(II)Z"⟩ prog_2_method_8_code 3 (some .boolean) ∈ tw := tw_3 (i := 1) rfl rfl
theorem tm3_2 : Cond.methodLink "KindTables$Examples" 45 ⟨"KindTables$Examples", "countNearer", "(II)I"⟩ ∈ tw := tw_3 (i := 2) rfl rfl
theorem tm3_4 : Cond.instanceMethod ⟨"KindTables$Examples", "countNearer", "(II)I"⟩ ∈ tw := tw_3 (i := 4) rfl rfl
theorem tm3_5 : Cond.code ⟨"KindTables$Examples", "countNearer", "(II)I"⟩ prog_2_method_9_code 7 (some .int) ∈ tw := tw_3 (i := 5) rfl rfl
theorem tm3_6 : Cond.methodLink "KindTables$Examples" 48 ⟨"KindTables$Examples", "squares", "(II)I"⟩ ∈ tw := tw_3 (i := 6) rfl rfl
theorem tm3_7 : Cond.instanceMethod ⟨"KindTables$Examples", "squares", "(II)I"⟩ ∈ tw := tw_3 (i := 7) rfl rfl
theorem tm3_8 : Cond.selects "KindTables$Examples" ⟨"KindTables$Examples", "squares", "(II)I"⟩ ⟨"KindTables$Examples", "squares", "(II)I"⟩ ∈ tw := tw_3 (i := 8) rfl rfl
theorem tm3_9 : Cond.code ⟨"KindTables$Examples", "squares", "(II)I"⟩ prog_2_method_6_code 5 (some .int) ∈ tw := tw_3 (i := 9) rfl rfl
theorem tm3_11 : Cond.static ⟨"KindTables", "square", "(I)I"⟩ ∈ tw := tw_3 (i := 11) rfl rfl
theorem tm3_12 : Cond.code ⟨"KindTables", "square", "(I)I"⟩ prog_1_method_36_code 1 (some .int) ∈ tw := tw_3 (i := 12) rfl rfl
theorem tm3_13 : Cond.methodLink "KindTablesLaw" 153 ⟨"KindTablesLaw", "distance", "(LKindTables;II[J)I"⟩ ∈ tw := tw_3 (i := 13) rfl rfl
theorem tm3_14 : Cond.static ⟨"KindTablesLaw", "distance", "(LKindTables;II[J)I"⟩ ∈ tw := tw_3 (i := 14) rfl rfl
theorem tm3_15 : Cond.codeWith ⟨"KindTablesLaw", "distance", "(LKindTables;II[J)I"⟩ method_18_code 5 (some .int) [(0, 10, 13, 13)] ∈ tw := tw_3 (i := 15) rfl rfl
theorem tm3_16 : Cond.methodLink "KindTablesLaw" 64 ⟨"KindTables", "distance", "(II)I"⟩ ∈ tw := tw_3 (i := 16) rfl rfl
theorem tm3_17 : Cond.instanceMethod ⟨"KindTables", "distance", "(II)I"⟩ ∈ tw := tw_3 (i := 17) rfl rfl
theorem tm3_18 : Cond.selects "KindTables" ⟨"KindTables", "distance", "(II)I"⟩ ⟨"KindTables", "distance", "(II)I"⟩ ∈ tw := tw_3 (i := 18) rfl rfl
theorem tm3_19 : Cond.code ⟨"KindTables", "distance", "(II)I"⟩ prog_1_method_18_code 3 (some .int) ∈ tw := tw_3 (i := 19) rfl rfl
theorem tm3_20 : Cond.methodLink "KindTables" 147 ⟨"KindTables$Examples", "squares", "(II)I"⟩ ∈ tw := tw_3 (i := 20) rfl rfl
theorem tm3_21 : Cond.methodLink "KindTablesLaw" 156 ⟨"KindTablesLaw", "haul", "(LKindTables;II[J)I"⟩ ∈ tw := tw_3 (i := 21) rfl rfl
theorem tm3_22 : Cond.static ⟨"KindTablesLaw", "haul", "(LKindTables;II[J)I"⟩ ∈ tw := tw_3 (i := 22) rfl rfl
theorem tm3_23 : Cond.codeWith ⟨"KindTablesLaw", "haul", "(LKindTables;II[J)I"⟩ method_19_code 5 (some .int) [(0, 10, 13, 21), (0, 10, 17, 15)] ∈ tw := tw_3 (i := 23) rfl rfl
theorem tm3_24 : Cond.methodLink "KindTablesLaw" 67 ⟨"KindTables", "haul", "(II)I"⟩ ∈ tw := tw_3 (i := 24) rfl rfl
theorem tm3_25 : Cond.instanceMethod ⟨"KindTables", "haul", "(II)I"⟩ ∈ tw := tw_3 (i := 25) rfl rfl
theorem tm3_26 : Cond.selects "KindTables" ⟨"KindTables", "haul", "(II)I"⟩ ⟨"KindTables", "haul", "(II)I"⟩ ∈ tw := tw_3 (i := 26) rfl rfl
theorem tm3_27 : Cond.code ⟨"KindTables", "haul", "(II)I"⟩ prog_1_method_19_code 3 (some .int) ∈ tw := tw_3 (i := 27) rfl rfl
theorem tm3_28 : Cond.methodLink "KindTables" 150 ⟨"KindTables", "needPlace", "(II)V"⟩ ∈ tw := tw_3 (i := 28) rfl rfl
theorem tm3_29 : Cond.static ⟨"KindTables", "needPlace", "(II)V"⟩ ∈ tw := tw_3 (i := 29) rfl rfl
theorem tm3_30 : Cond.code ⟨"KindTables", "needPlace", "(II)V"⟩ prog_1_method_33_code 2 none ∈ tw := tw_3 (i := 30) rfl rfl
theorem tm3_32 : Cond.methodLink "KindTables" 157 ⟨"KindTables$Hauls", "add", "(II)I"⟩ ∈ tw := tw_3 (i := 32) rfl rfl
theorem tm3_33 : Cond.instanceMethod ⟨"KindTables$Hauls", "add", "(II)I"⟩ ∈ tw := tw_3 (i := 33) rfl rfl
theorem tm3_34 : Cond.selects "KindTables$Hauls" ⟨"KindTables$Hauls", "add", "(II)I"⟩ ⟨"KindTables$Hauls", "add", "(II)I"⟩ ∈ tw := tw_3 (i := 34) rfl rfl
theorem tm3_35 : Cond.code ⟨"KindTables$Hauls", "add", "(II)I"⟩ prog_3_method_2_code 3 (some .int) ∈ tw := tw_3 (i := 35) rfl rfl
theorem tm3_36 : Cond.methodLink "KindTablesLaw" 159 ⟨"KindTablesLaw", "grams", "(LKindTables;III[J)I"⟩ ∈ tw := tw_3 (i := 36) rfl rfl
theorem tm3_37 : Cond.static ⟨"KindTablesLaw", "grams", "(LKindTables;III[J)I"⟩ ∈ tw := tw_3 (i := 37) rfl rfl
theorem tm3_38 : Cond.codeWith ⟨"KindTablesLaw", "grams", "(LKindTables;III[J)I"⟩ method_20_code 6 (some .int) [(0, 12, 15, 13), (0, 12, 19, 21)] ∈ tw := tw_3 (i := 38) rfl rfl
theorem tm3_39 : Cond.methodLink "KindTablesLaw" 70 ⟨"KindTables", "grams", "(III)I"⟩ ∈ tw := tw_3 (i := 39) rfl rfl
theorem tm3_40 : Cond.instanceMethod ⟨"KindTables", "grams", "(III)I"⟩ ∈ tw := tw_3 (i := 40) rfl rfl
theorem tm3_41 : Cond.selects "KindTables" ⟨"KindTables", "grams", "(III)I"⟩ ⟨"KindTables", "grams", "(III)I"⟩ ∈ tw := tw_3 (i := 41) rfl rfl
theorem tm3_42 : Cond.code ⟨"KindTables", "grams", "(III)I"⟩ prog_1_method_20_code 5 (some .int) ∈ tw := tw_3 (i := 42) rfl rfl
theorem tm3_43 : Cond.methodLink "KindTables" 159 ⟨"KindTables", "needHaul", "(I)V"⟩ ∈ tw := tw_3 (i := 43) rfl rfl
theorem tm3_45 : Cond.instanceMethod ⟨"KindTables", "needHaul", "(I)V"⟩ ∈ tw := tw_3 (i := 45) rfl rfl
theorem tm3_46 : Cond.code ⟨"KindTables", "needHaul", "(I)V"⟩ prog_1_method_30_code 2 none ∈ tw := tw_3 (i := 46) rfl rfl
theorem tm3_48 : Cond.methodLink "KindTablesLaw" 162 ⟨"KindTablesLaw", "share", "(LKindTables;IIII[J)I"⟩ ∈ tw := tw_3 (i := 48) rfl rfl
theorem tm3_49 : Cond.static ⟨"KindTablesLaw", "share", "(LKindTables;IIII[J)I"⟩ ∈ tw := tw_3 (i := 49) rfl rfl
theorem tm3_50 : Cond.codeWith ⟨"KindTablesLaw", "share", "(LKindTables;IIII[J)I"⟩ method_21_code 7 (some .int) [(0, 13, 16, 13), (0, 13, 20, 21)] ∈ tw := tw_3 (i := 50) rfl rfl
theorem tm3_51 : Cond.methodLink "KindTablesLaw" 73 ⟨"KindTables", "share", "(IIII)J"⟩ ∈ tw := tw_3 (i := 51) rfl rfl
theorem tm3_52 : Cond.instanceMethod ⟨"KindTables", "share", "(IIII)J"⟩ ∈ tw := tw_3 (i := 52) rfl rfl
theorem tm3_53 : Cond.selects "KindTables" ⟨"KindTables", "share", "(IIII)J"⟩ ⟨"KindTables", "share", "(IIII)J"⟩ ∈ tw := tw_3 (i := 53) rfl rfl
theorem tm3_54 : Cond.code ⟨"KindTables", "share", "(IIII)J"⟩ prog_1_method_21_code 5 (some .long) ∈ tw := tw_3 (i := 54) rfl rfl
theorem tm3_55 : Cond.methodLink "KindTables" 165 ⟨"KindTables$Hauls", "sharePart", "(IIII)J"⟩ ∈ tw := tw_3 (i := 55) rfl rfl
theorem tm3_56 : Cond.instanceMethod ⟨"KindTables$Hauls", "sharePart", "(IIII)J"⟩ ∈ tw := tw_3 (i := 56) rfl rfl
theorem tm3_57 : Cond.selects "KindTables$Hauls" ⟨"KindTables$Hauls", "sharePart", "(IIII)J"⟩ ⟨"KindTables$Hauls", "sharePart", "(IIII)J"⟩ ∈ tw := tw_3 (i := 57) rfl rfl
theorem tm3_58 : Cond.code ⟨"KindTables$Hauls", "sharePart", "(IIII)J"⟩ prog_3_method_3_code 17 (some .long) ∈ tw := tw_3 (i := 58) rfl rfl
theorem tm3_59 : Cond.methodLink "KindTables$Hauls" 30 ⟨"KindTables$Hauls", "nearestFilled", "(III)I"⟩ ∈ tw := tw_3 (i := 59) rfl rfl
theorem tm3_61 : Cond.instanceMethod ⟨"KindTables$Hauls", "nearestFilled", "(III)I"⟩ ∈ tw := tw_3 (i := 61) rfl rfl
theorem tm3_62 : Cond.code ⟨"KindTables$Hauls", "nearestFilled", "(III)I"⟩ prog_3_method_4_code 8 (some .int) ∈ tw := tw_3 (i := 62) rfl rfl
theorem tm3_63 : Cond.methodLink "KindTables$Hauls" 38 ⟨"KindTables$Hauls", "allGrams", "(I)I"⟩ ∈ tw := tw_3 (i := 63) rfl rfl
theorem tm3_65 : Cond.instanceMethod ⟨"KindTables$Hauls", "allGrams", "(I)I"⟩ ∈ tw := tw_3 (i := 65) rfl rfl
theorem tm3_66 : Cond.code ⟨"KindTables$Hauls", "allGrams", "(I)I"⟩ prog_3_method_6_code 4 (some .int) ∈ tw := tw_3 (i := 66) rfl rfl
theorem tm3_67 : Cond.methodLink "KindTables$Hauls" 42 ⟨"KindTables$Hauls", "squareTo", "(III)I"⟩ ∈ tw := tw_3 (i := 67) rfl rfl
theorem tm3_69 : Cond.instanceMethod ⟨"KindTables$Hauls", "squareTo", "(III)I"⟩ ∈ tw := tw_3 (i := 69) rfl rfl
theorem tm3_70 : Cond.code ⟨"KindTables$Hauls", "squareTo", "(III)I"⟩ prog_3_method_5_code 4 (some .int) ∈ tw := tw_3 (i := 70) rfl rfl
theorem tm3_73 : Cond.methodLink "KindTablesLaw" 166 ⟨"KindTablesLaw", "law", "(LKindTables;III[J)I"⟩ ∈ tw := tw_3 (i := 73) rfl rfl
theorem tm3_74 : Cond.static ⟨"KindTablesLaw", "law", "(LKindTables;III[J)I"⟩ ∈ tw := tw_3 (i := 74) rfl rfl
theorem tm3_75 : Cond.codeWith ⟨"KindTablesLaw", "law", "(LKindTables;III[J)I"⟩ method_22_code 6 (some .int) [(0, 12, 15, 13), (0, 12, 19, 21), (0, 12, 23, 15)] ∈ tw := tw_3 (i := 75) rfl rfl
theorem tm3_76 : Cond.methodLink "KindTablesLaw" 77 ⟨"KindTables", "law", "(III)I"⟩ ∈ tw := tw_3 (i := 76) rfl rfl
theorem tm3_77 : Cond.instanceMethod ⟨"KindTables", "law", "(III)I"⟩ ∈ tw := tw_3 (i := 77) rfl rfl
theorem tm3_78 : Cond.selects "KindTables" ⟨"KindTables", "law", "(III)I"⟩ ⟨"KindTables", "law", "(III)I"⟩ ∈ tw := tw_3 (i := 78) rfl rfl
theorem tm3_79 : Cond.code ⟨"KindTables", "law", "(III)I"⟩ prog_1_method_22_code 5 (some .int) ∈ tw := tw_3 (i := 79) rfl rfl
theorem tm3_80 : Cond.methodLink "KindTables" 169 ⟨"KindTables$Law", "lastLength", "()I"⟩ ∈ tw := tw_3 (i := 80) rfl rfl
theorem tm3_81 : Cond.instanceMethod ⟨"KindTables$Law", "lastLength", "()I"⟩ ∈ tw := tw_3 (i := 81) rfl rfl
theorem tm3_82 : Cond.selects "KindTables$Law" ⟨"KindTables$Law", "lastLength", "()I"⟩ ⟨"KindTables$Law", "lastLength", "()I"⟩ ∈ tw := tw_3 (i := 82) rfl rfl
theorem tm3_83 : Cond.code ⟨"KindTables$Law", "lastLength", "()I"⟩ prog_4_method_2_code 1 (some .int) ∈ tw := tw_3 (i := 83) rfl rfl
theorem tm3_86 : Cond.methodLink "KindTables" 179 ⟨"KindTables$Law", "add", "(II)I"⟩ ∈ tw := tw_3 (i := 86) rfl rfl
theorem tm3_87 : Cond.instanceMethod ⟨"KindTables$Law", "add", "(II)I"⟩ ∈ tw := tw_3 (i := 87) rfl rfl
theorem tm3_88 : Cond.selects "KindTables$Law" ⟨"KindTables$Law", "add", "(II)I"⟩ ⟨"KindTables$Law", "add", "(II)I"⟩ ∈ tw := tw_3 (i := 88) rfl rfl
theorem tm3_89 : Cond.code ⟨"KindTables$Law", "add", "(II)I"⟩ prog_4_method_3_code 3 (some .int) ∈ tw := tw_3 (i := 89) rfl rfl
theorem tm3_90 : Cond.methodLink "KindTablesLaw" 169 ⟨"KindTablesLaw", "strength", "(LKindTables;II[J)I"⟩ ∈ tw := tw_3 (i := 90) rfl rfl
theorem tm3_91 : Cond.static ⟨"KindTablesLaw", "strength", "(LKindTables;II[J)I"⟩ ∈ tw := tw_3 (i := 91) rfl rfl
theorem tm3_92 : Cond.codeWith ⟨"KindTablesLaw", "strength", "(LKindTables;II[J)I"⟩ method_23_code 5 (some .int) [(0, 10, 13, 13)] ∈ tw := tw_3 (i := 92) rfl rfl
theorem tm3_93 : Cond.methodLink "KindTablesLaw" 80 ⟨"KindTables", "strength", "(II)I"⟩ ∈ tw := tw_3 (i := 93) rfl rfl
theorem tm3_94 : Cond.instanceMethod ⟨"KindTables", "strength", "(II)I"⟩ ∈ tw := tw_3 (i := 94) rfl rfl
theorem tm3_95 : Cond.selects "KindTables" ⟨"KindTables", "strength", "(II)I"⟩ ⟨"KindTables", "strength", "(II)I"⟩ ∈ tw := tw_3 (i := 95) rfl rfl
theorem tm3_96 : Cond.code ⟨"KindTables", "strength", "(II)I"⟩ prog_1_method_23_code 3 (some .int) ∈ tw := tw_3 (i := 96) rfl rfl
theorem tm3_97 : Cond.methodLink "KindTables" 180 ⟨"KindTables$Law", "strengthAt", "(I)I"⟩ ∈ tw := tw_3 (i := 97) rfl rfl
theorem tm3_98 : Cond.instanceMethod ⟨"KindTables$Law", "strengthAt", "(I)I"⟩ ∈ tw := tw_3 (i := 98) rfl rfl
theorem tm3_99 : Cond.selects "KindTables$Law" ⟨"KindTables$Law", "strengthAt", "(I)I"⟩ ⟨"KindTables$Law", "strengthAt", "(I)I"⟩ ∈ tw := tw_3 (i := 99) rfl rfl
theorem tm3_100 : Cond.code ⟨"KindTables$Law", "strengthAt", "(I)I"⟩ prog_4_method_4_code 3 (some .int) ∈ tw := tw_3 (i := 100) rfl rfl
theorem tm3_101 : Cond.methodLink "KindTables$Law" 22 ⟨"KindTables$Law", "strengthBefore", "(II)I"⟩ ∈ tw := tw_3 (i := 101) rfl rfl
theorem tm3_103 : Cond.instanceMethod ⟨"KindTables$Law", "strengthBefore", "(II)I"⟩ ∈ tw := tw_3 (i := 103) rfl rfl
theorem tm3_104 : Cond.code ⟨"KindTables$Law", "strengthBefore", "(II)I"⟩ prog_4_method_5_code 5 (some .int) ∈ tw := tw_3 (i := 104) rfl rfl
theorem tm3_105 : Cond.methodLink "KindTables$Law" 26 ⟨"java/lang/Math", "floorDiv", "(II)I"⟩ ∈ tw := tw_3 (i := 105) rfl rfl
theorem tm3_106 : Cond.static ⟨"java/lang/Math", "floorDiv", "(II)I"⟩ ∈ tw := tw_3 (i := 106) rfl rfl
theorem tm3_107 : Cond.code ⟨"java/lang/Math", "floorDiv", "(II)I"⟩ prog_12_method_47_code 3 (some .int) ∈ tw := tw_3 (i := 107) rfl rfl
theorem tm3_108 : Cond.methodLink "KindTablesLaw" 172 ⟨"KindTablesLaw", "length", "(LKindTables;II[J)I"⟩ ∈ tw := tw_3 (i := 108) rfl rfl
theorem tm3_109 : Cond.static ⟨"KindTablesLaw", "length", "(LKindTables;II[J)I"⟩ ∈ tw := tw_3 (i := 109) rfl rfl
theorem tm3_110 : Cond.codeWith ⟨"KindTablesLaw", "length", "(LKindTables;II[J)I"⟩ method_24_code 5 (some .int) [(0, 10, 13, 13)] ∈ tw := tw_3 (i := 110) rfl rfl
theorem tm3_111 : Cond.methodLink "KindTablesLaw" 83 ⟨"KindTables", "length", "(II)I"⟩ ∈ tw := tw_3 (i := 111) rfl rfl
theorem tm3_112 : Cond.instanceMethod ⟨"KindTables", "length", "(II)I"⟩ ∈ tw := tw_3 (i := 112) rfl rfl
theorem tm3_113 : Cond.selects "KindTables" ⟨"KindTables", "length", "(II)I"⟩ ⟨"KindTables", "length", "(II)I"⟩ ∈ tw := tw_3 (i := 113) rfl rfl
theorem tm3_114 : Cond.code ⟨"KindTables", "length", "(II)I"⟩ prog_1_method_24_code 3 (some .int) ∈ tw := tw_3 (i := 114) rfl rfl
theorem tm3_115 : Cond.methodLink "KindTables" 183 ⟨"KindTables$Law", "leastLength", "(I)I"⟩ ∈ tw := tw_3 (i := 115) rfl rfl
theorem tm3_116 : Cond.instanceMethod ⟨"KindTables$Law", "leastLength", "(I)I"⟩ ∈ tw := tw_3 (i := 116) rfl rfl
theorem tm3_117 : Cond.selects "KindTables$Law" ⟨"KindTables$Law", "leastLength", "(I)I"⟩ ⟨"KindTables$Law", "leastLength", "(I)I"⟩ ∈ tw := tw_3 (i := 117) rfl rfl
theorem tm3_118 : Cond.code ⟨"KindTables$Law", "leastLength", "(I)I"⟩ prog_4_method_6_code 3 (some .int) ∈ tw := tw_3 (i := 118) rfl rfl
theorem tm3_119 : Cond.methodLink "KindTables$Law" 31 ⟨"KindTables$Law", "leastLengthBefore", "(II)I"⟩ ∈ tw := tw_3 (i := 119) rfl rfl
theorem tm3_121 : Cond.instanceMethod ⟨"KindTables$Law", "leastLengthBefore", "(II)I"⟩ ∈ tw := tw_3 (i := 121) rfl rfl
theorem tm3_122 : Cond.code ⟨"KindTables$Law", "leastLengthBefore", "(II)I"⟩ prog_4_method_7_code 6 (some .int) ∈ tw := tw_3 (i := 122) rfl rfl
theorem tm3_123 : Cond.classLink "KindTablesLaw" 94 "KindTablesModel" ∈ tw := tw_3 (i := 123) rfl rfl
theorem tm3_124 : Cond.instantiable "KindTablesModel" 17 ∈ tw := tw_3 (i := 124) rfl rfl
theorem tm3_125 : Cond.methodLink "KindTablesLaw" 96 ⟨"KindTablesModel", "<init>", "(II)V"⟩ ∈ tw := tw_3 (i := 125) rfl rfl
theorem tm3_126 : Cond.instanceMethod ⟨"KindTablesModel", "<init>", "(II)V"⟩ ∈ tw := tw_3 (i := 126) rfl rfl
theorem tm3_127 : Cond.code ⟨"KindTablesModel", "<init>", "(II)V"⟩ prog_7_method_1_code 4 none ∈ tw := tw_3 (i := 127) rfl rfl
theorem tm3_128 : Cond.methodLink "KindTablesModel" 1 ⟨"java/lang/Object", "<init>", "()V"⟩ ∈ tw := tw_3 (i := 128) rfl rfl
theorem tm3_129 : Cond.fieldLink "KindTablesModel" 53 "KindTablesModel" "thrown" "I" ∈ tw := tw_3 (i := 129) rfl rfl
theorem tm3_130 : Cond.fieldLink "KindTablesModel" 47 "KindTablesModel" "kinds" "I" ∈ tw := tw_3 (i := 130) rfl rfl
theorem tm3_131 : Cond.fieldLink "KindTablesModel" 50 "KindTablesModel" "features" "I" ∈ tw := tw_3 (i := 131) rfl rfl
theorem tm3_132 : Cond.fieldLink "KindTablesModel" 7 "KindTablesModel" "widths" "[I" ∈ tw := tw_3 (i := 132) rfl rfl
theorem tm3_133 : Cond.fieldLink "KindTablesModel" 60 "KindTablesModel" "examples" "I" ∈ tw := tw_3 (i := 133) rfl rfl
theorem tm3_134 : Cond.fieldLink "KindTablesModel" 13 "KindTablesModel" "taught" "[I" ∈ tw := tw_3 (i := 134) rfl rfl
theorem tm3_135 : Cond.fieldLink "KindTablesModel" 16 "KindTablesModel" "numbers" "[I" ∈ tw := tw_3 (i := 135) rfl rfl
theorem tm3_136 : Cond.fieldLink "KindTablesModel" 19 "KindTablesModel" "order" "[I" ∈ tw := tw_3 (i := 136) rfl rfl
theorem tm3_137 : Cond.fieldLink "KindTablesModel" 22 "KindTablesModel" "bound" "I" ∈ tw := tw_3 (i := 137) rfl rfl
theorem tm3_138 : Cond.fieldLink "KindTablesModel" 107 "KindTablesModel" "hauls" "I" ∈ tw := tw_3 (i := 138) rfl rfl
theorem tm3_139 : Cond.fieldLink "KindTablesModel" 26 "KindTablesModel" "xs" "[I" ∈ tw := tw_3 (i := 139) rfl rfl
theorem tm3_140 : Cond.fieldLink "KindTablesModel" 29 "KindTablesModel" "ys" "[I" ∈ tw := tw_3 (i := 140) rfl rfl
theorem tm3_141 : Cond.fieldLink "KindTablesModel" 32 "KindTablesModel" "grams" "[I" ∈ tw := tw_3 (i := 141) rfl rfl
theorem tm3_142 : Cond.fieldLink "KindTablesModel" 35 "KindTablesModel" "rows" "[I" ∈ tw := tw_3 (i := 142) rfl rfl
theorem tm3_143 : Cond.fieldLink "KindTablesModel" 38 "KindTablesModel" "rowLengths" "[I" ∈ tw := tw_3 (i := 143) rfl rfl
theorem tm3_144 : Cond.fieldLink "KindTablesModel" 41 "KindTablesModel" "rowStrengths" "[I" ∈ tw := tw_3 (i := 144) rfl rfl
theorem tm3_145 : Cond.fieldLink "KindTablesModel" 44 "KindTablesModel" "group" "[I" ∈ tw := tw_3 (i := 145) rfl rfl
theorem tm3_146 : Cond.lays "KindTablesModel" "KindTablesModel" "thrown" "I" ∈ tw := tw_3 (i := 146) rfl rfl
theorem tm3_147 : Cond.soleField "KindTablesModel" "thrown" ∈ tw := tw_3 (i := 147) rfl rfl
theorem tm3_148 : Cond.laysFinal "KindTablesModel" "KindTablesModel" "kinds" "I" ∈ tw := tw_3 (i := 148) rfl rfl
theorem tm3_149 : Cond.soleField "KindTablesModel" "kinds" ∈ tw := tw_3 (i := 149) rfl rfl
theorem tm3_150 : Cond.laysFinal "KindTablesModel" "KindTablesModel" "features" "I" ∈ tw := tw_3 (i := 150) rfl rfl
theorem tm3_151 : Cond.soleField "KindTablesModel" "features" ∈ tw := tw_3 (i := 151) rfl rfl
theorem tm3_152 : Cond.laysFinal "KindTablesModel" "KindTablesModel" "widths" "[I" ∈ tw := tw_3 (i := 152) rfl rfl
theorem tm3_153 : Cond.soleField "KindTablesModel" "widths" ∈ tw := tw_3 (i := 153) rfl rfl
theorem tm3_154 : Cond.lays "KindTablesModel" "KindTablesModel" "examples" "I" ∈ tw := tw_3 (i := 154) rfl rfl
theorem tm3_155 : Cond.soleField "KindTablesModel" "examples" ∈ tw := tw_3 (i := 155) rfl rfl
theorem tm3_156 : Cond.laysFinal "KindTablesModel" "KindTablesModel" "taught" "[I" ∈ tw := tw_3 (i := 156) rfl rfl
theorem tm3_157 : Cond.soleField "KindTablesModel" "taught" ∈ tw := tw_3 (i := 157) rfl rfl
theorem tm3_158 : Cond.laysFinal "KindTablesModel" "KindTablesModel" "numbers" "[I" ∈ tw := tw_3 (i := 158) rfl rfl
theorem tm3_159 : Cond.soleField "KindTablesModel" "numbers" ∈ tw := tw_3 (i := 159) rfl rfl
theorem tm3_160 : Cond.laysFinal "KindTablesModel" "KindTablesModel" "order" "[I" ∈ tw := tw_3 (i := 160) rfl rfl
theorem tm3_161 : Cond.soleField "KindTablesModel" "order" ∈ tw := tw_3 (i := 161) rfl rfl
theorem tm3_162 : Cond.lays "KindTablesModel" "KindTablesModel" "bound" "I" ∈ tw := tw_3 (i := 162) rfl rfl
theorem tm3_163 : Cond.soleField "KindTablesModel" "bound" ∈ tw := tw_3 (i := 163) rfl rfl
theorem tm3_164 : Cond.lays "KindTablesModel" "KindTablesModel" "hauls" "I" ∈ tw := tw_3 (i := 164) rfl rfl
theorem tm3_165 : Cond.soleField "KindTablesModel" "hauls" ∈ tw := tw_3 (i := 165) rfl rfl
theorem tm3_166 : Cond.laysFinal "KindTablesModel" "KindTablesModel" "xs" "[I" ∈ tw := tw_3 (i := 166) rfl rfl
theorem tm3_167 : Cond.soleField "KindTablesModel" "xs" ∈ tw := tw_3 (i := 167) rfl rfl
theorem tm3_168 : Cond.laysFinal "KindTablesModel" "KindTablesModel" "ys" "[I" ∈ tw := tw_3 (i := 168) rfl rfl
theorem tm3_169 : Cond.soleField "KindTablesModel" "ys" ∈ tw := tw_3 (i := 169) rfl rfl
theorem tm3_170 : Cond.laysFinal "KindTablesModel" "KindTablesModel" "grams" "[I" ∈ tw := tw_3 (i := 170) rfl rfl
theorem tm3_171 : Cond.soleField "KindTablesModel" "grams" ∈ tw := tw_3 (i := 171) rfl rfl
theorem tm3_172 : Cond.laysFinal "KindTablesModel" "KindTablesModel" "rows" "[I" ∈ tw := tw_3 (i := 172) rfl rfl
theorem tm3_173 : Cond.soleField "KindTablesModel" "rows" ∈ tw := tw_3 (i := 173) rfl rfl
theorem tm3_174 : Cond.laysFinal "KindTablesModel" "KindTablesModel" "rowLengths" "[I" ∈ tw := tw_3 (i := 174) rfl rfl
theorem tm3_175 : Cond.soleField "KindTablesModel" "rowLengths" ∈ tw := tw_3 (i := 175) rfl rfl
theorem tm3_176 : Cond.laysFinal "KindTablesModel" "KindTablesModel" "rowStrengths" "[I" ∈ tw := tw_3 (i := 176) rfl rfl
theorem tm3_177 : Cond.soleField "KindTablesModel" "rowStrengths" ∈ tw := tw_3 (i := 177) rfl rfl
theorem tm3_178 : Cond.laysFinal "KindTablesModel" "KindTablesModel" "group" "[I" ∈ tw := tw_3 (i := 178) rfl rfl
theorem tm3_179 : Cond.soleField "KindTablesModel" "group" ∈ tw := tw_3 (i := 179) rfl rfl
theorem tm3_180 : Cond.superclass "KindTablesModel" "java/lang/Object" ∈ tw := tw_3 (i := 180) rfl rfl
theorem tm3_181 : Cond.methodLink "KindTablesLaw" 101 ⟨"KindTablesModel", "thrown", "()I"⟩ ∈ tw := tw_3 (i := 181) rfl rfl
theorem tm3_182 : Cond.instanceMethod ⟨"KindTablesModel", "thrown", "()I"⟩ ∈ tw := tw_3 (i := 182) rfl rfl
theorem tm3_183 : Cond.selects "KindTablesModel" ⟨"KindTablesModel", "thrown", "()I"⟩ ⟨"KindTablesModel", "thrown", "()I"⟩ ∈ tw := tw_3 (i := 183) rfl rfl
theorem tm3_184 : Cond.code ⟨"KindTablesModel", "thrown", "()I"⟩ prog_7_method_2_code 1 (some .int) ∈ tw := tw_3 (i := 184) rfl rfl
theorem tm3_185 : Cond.methodLink "KindTablesLaw" 100 ⟨"KindTablesModel", "example", "(I)I"⟩ ∈ tw := tw_3 (i := 185) rfl rfl
theorem tm3_186 : Cond.instanceMethod ⟨"KindTablesModel", "example", "(I)I"⟩ ∈ tw := tw_3 (i := 186) rfl rfl
theorem tm3_187 : Cond.selects "KindTablesModel" ⟨"KindTablesModel", "example", "(I)I"⟩ ⟨"KindTablesModel", "example", "(I)I"⟩ ∈ tw := tw_3 (i := 187) rfl rfl
theorem tm3_188 : Cond.code ⟨"KindTablesModel", "example", "(I)I"⟩ prog_7_method_7_code 2 (some .int) ∈ tw := tw_3 (i := 188) rfl rfl
theorem tm3_189 : Cond.methodLink "KindTablesModel" 63 ⟨"KindTablesModel", "isKind", "(I)Z"⟩ ∈ tw := tw_3 (i := 189) rfl rfl
theorem tm3_191 : Cond.instanceMethod ⟨"KindTablesModel", "isKind", "(I)Z"⟩ ∈ tw := tw_3 (i := 191) rfl rfl
theorem tm3_192 : Cond.code ⟨"KindTablesModel", "isKind", "(I)Z"⟩ prog_7_method_4_code 2 (some .boolean) ∈ tw := tw_3 (i := 192) rfl rfl
theorem tm3_193 : Cond.methodLink "KindTablesModel" 56 ⟨"KindTablesModel", "isIn", "(III)Z"⟩ ∈ tw := tw_3 (i := 193) rfl rfl
theorem tm3_194 : Cond.static ⟨"KindTablesModel", "isIn", "(III)Z"⟩ ∈ tw := tw_3 (i := 194) rfl rfl
theorem tm3_195 : Cond.code ⟨"KindTablesModel", "isIn", "(III)Z"⟩ prog_7_method_3_code 3 (some .boolean) ∈ tw := tw_3 (i := 195) rfl rfl
theorem tm3_196 : Cond.methodLink "KindTablesLaw" 108 ⟨"KindTablesModel", "value", "(III)Z"⟩ ∈ tw := tw_3 (i := 196) rfl rfl
theorem tm3_197 : Cond.instanceMethod ⟨"KindTablesModel", "value", "(III)Z"⟩ ∈ tw := tw_3 (i := 197) rfl rfl
theorem tm3_198 : Cond.selects "KindTablesModel" ⟨"KindTablesModel", "value", "(III)Z"⟩ ⟨"KindTablesModel", "value", "(III)Z"⟩ ∈ tw := tw_3 (i := 198) rfl rfl
theorem tm3_199 : Cond.code ⟨"KindTablesModel", "value", "(III)Z"⟩ prog_7_method_8_code 5 (some .boolean) ∈ tw := tw_3 (i := 199) rfl rfl
theorem tm3_200 : Cond.methodLink "KindTablesModel" 67 ⟨"KindTablesModel", "isExample", "(I)Z"⟩ ∈ tw := tw_3 (i := 200) rfl rfl
theorem tm3_202 : Cond.instanceMethod ⟨"KindTablesModel", "isExample", "(I)Z"⟩ ∈ tw := tw_3 (i := 202) rfl rfl
theorem tm3_203 : Cond.code ⟨"KindTablesModel", "isExample", "(I)Z"⟩ prog_7_method_5_code 2 (some .boolean) ∈ tw := tw_3 (i := 203) rfl rfl
theorem tm3_204 : Cond.methodLink "KindTablesModel" 70 ⟨"KindTablesModel", "isFeature", "(I)Z"⟩ ∈ tw := tw_3 (i := 204) rfl rfl
theorem tm3_206 : Cond.instanceMethod ⟨"KindTablesModel", "isFeature", "(I)Z"⟩ ∈ tw := tw_3 (i := 206) rfl rfl
theorem tm3_207 : Cond.code ⟨"KindTablesModel", "isFeature", "(I)Z"⟩ prog_7_method_6_code 2 (some .boolean) ∈ tw := tw_3 (i := 207) rfl rfl
theorem tm3_208 : Cond.methodLink "KindTablesLaw" 112 ⟨"KindTablesModel", "teach", "(II)I"⟩ ∈ tw := tw_3 (i := 208) rfl rfl
theorem tm3_209 : Cond.instanceMethod ⟨"KindTablesModel", "teach", "(II)I"⟩ ∈ tw := tw_3 (i := 209) rfl rfl
theorem tm3_210 : Cond.selects "KindTablesModel" ⟨"KindTablesModel", "teach", "(II)I"⟩ ⟨"KindTablesModel", "teach", "(II)I"⟩ ∈ tw := tw_3 (i := 210) rfl rfl
theorem tm3_211 : Cond.code ⟨"KindTablesModel", "teach", "(II)I"⟩ prog_7_method_9_code 4 (some .int) ∈ tw := tw_3 (i := 211) rfl rfl
theorem tm3_212 : Cond.methodLink "KindTablesLaw" 115 ⟨"KindTablesModel", "width", "(II)I"⟩ ∈ tw := tw_3 (i := 212) rfl rfl
theorem tm3_213 : Cond.instanceMethod ⟨"KindTablesModel", "width", "(II)I"⟩ ∈ tw := tw_3 (i := 213) rfl rfl
theorem tm3_214 : Cond.selects "KindTablesModel" ⟨"KindTablesModel", "width", "(II)I"⟩ ⟨"KindTablesModel", "width", "(II)I"⟩ ∈ tw := tw_3 (i := 214) rfl rfl
theorem tm3_215 : Cond.code ⟨"KindTablesModel", "width", "(II)I"⟩ prog_7_method_10_code 4 (some .int) ∈ tw := tw_3 (i := 215) rfl rfl
theorem tm3_216 : Cond.methodLink "KindTablesLaw" 118 ⟨"KindTablesModel", "cell", "(II)I"⟩ ∈ tw := tw_3 (i := 216) rfl rfl
theorem tm3_217 : Cond.instanceMethod ⟨"KindTablesModel", "cell", "(II)I"⟩ ∈ tw := tw_3 (i := 217) rfl rfl
theorem tm3_218 : Cond.selects "KindTablesModel" ⟨"KindTablesModel", "cell", "(II)I"⟩ ⟨"KindTablesModel", "cell", "(II)I"⟩ ∈ tw := tw_3 (i := 218) rfl rfl
theorem tm3_219 : Cond.code ⟨"KindTablesModel", "cell", "(II)I"⟩ prog_7_method_12_code 3 (some .int) ∈ tw := tw_3 (i := 219) rfl rfl
theorem tm3_220 : Cond.methodLink "KindTablesModel" 73 ⟨"KindTablesModel", "cellOf", "(II)I"⟩ ∈ tw := tw_3 (i := 220) rfl rfl
theorem tm3_222 : Cond.instanceMethod ⟨"KindTablesModel", "cellOf", "(II)I"⟩ ∈ tw := tw_3 (i := 222) rfl rfl
theorem tm3_223 : Cond.code ⟨"KindTablesModel", "cellOf", "(II)I"⟩ prog_7_method_11_code 3 (some .int) ∈ tw := tw_3 (i := 223) rfl rfl
theorem tm3_224 : Cond.methodLink "KindTablesLaw" 121 ⟨"KindTablesModel", "votes", "(II)I"⟩ ∈ tw := tw_3 (i := 224) rfl rfl
theorem tm3_225 : Cond.instanceMethod ⟨"KindTablesModel", "votes", "(II)I"⟩ ∈ tw := tw_3 (i := 225) rfl rfl
theorem tm3_226 : Cond.selects "KindTablesModel" ⟨"KindTablesModel", "votes", "(II)I"⟩ ⟨"KindTablesModel", "votes", "(II)I"⟩ ∈ tw := tw_3 (i := 226) rfl rfl
theorem tm3_227 : Cond.code ⟨"KindTablesModel", "votes", "(II)I"⟩ prog_7_method_14_code 3 (some .int) ∈ tw := tw_3 (i := 227) rfl rfl
theorem tm3_228 : Cond.methodLink "KindTablesModel" 77 ⟨"KindTablesModel", "votesOf", "(IIII)I"⟩ ∈ tw := tw_3 (i := 228) rfl rfl
theorem tm3_230 : Cond.instanceMethod ⟨"KindTablesModel", "votesOf", "(IIII)I"⟩ ∈ tw := tw_3 (i := 230) rfl rfl
theorem tm3_231 : Cond.code ⟨"KindTablesModel", "votesOf", "(IIII)I"⟩ prog_7_method_13_code 8 (some .int) ∈ tw := tw_3 (i := 231) rfl rfl
theorem tm3_232 : Cond.methodLink "KindTablesLaw" 124 ⟨"KindTablesModel", "tell", "(I)I"⟩ ∈ tw := tw_3 (i := 232) rfl rfl
theorem tm3_233 : Cond.instanceMethod ⟨"KindTablesModel", "tell", "(I)I"⟩ ∈ tw := tw_3 (i := 233) rfl rfl
theorem tm3_234 : Cond.selects "KindTablesModel" ⟨"KindTablesModel", "tell", "(I)I"⟩ ⟨"KindTablesModel", "tell", "(I)I"⟩ ∈ tw := tw_3 (i := 234) rfl rfl
theorem tm3_235 : Cond.code ⟨"KindTablesModel", "tell", "(I)I"⟩ prog_7_method_16_code 2 (some .int) ∈ tw := tw_3 (i := 235) rfl rfl
theorem tm3_236 : Cond.methodLink "KindTablesModel" 81 ⟨"KindTablesModel", "toldBy", "(III)I"⟩ ∈ tw := tw_3 (i := 236) rfl rfl
theorem tm3_238 : Cond.instanceMethod ⟨"KindTablesModel", "toldBy", "(III)I"⟩ ∈ tw := tw_3 (i := 238) rfl rfl
theorem tm3_239 : Cond.code ⟨"KindTablesModel", "toldBy", "(III)I"⟩ prog_7_method_15_code 8 (some .int) ∈ tw := tw_3 (i := 239) rfl rfl
theorem tm4_0 : Cond.methodLink "KindTablesLaw" 127 ⟨"KindTablesModel", "bound", "(I)I"⟩ ∈ tw := tw_4 (i := 0) rfl rfl
theorem tm4_1 : Cond.instanceMethod ⟨"KindTablesModel", "bound", "(I)I"⟩ ∈ tw := tw_4 (i := 1) rfl rfl
theorem tm4_2 : Cond.selects "KindTablesModel" ⟨"KindTablesModel", "bound", "(I)I"⟩ ⟨"KindTablesModel", "bound", "(I)I"⟩ ∈ tw := tw_4 (i := 2) rfl rfl
theorem tm4_3 : Cond.code ⟨"KindTablesModel", "bound", "(I)I"⟩ prog_7_method_17_code 3 (some .int) ∈ tw := tw_4 (i := 3) rfl rfl
theorem tm4_4 : Cond.methodLink "KindTablesLaw" 130 ⟨"KindTablesModel", "prefer", "(I)I"⟩ ∈ tw := tw_4 (i := 4) rfl rfl
theorem tm4_5 : Cond.instanceMethod ⟨"KindTablesModel", "prefer", "(I)I"⟩ ∈ tw := tw_4 (i := 5) rfl rfl
theorem tm4_6 : Cond.selects "KindTablesModel" ⟨"KindTablesModel", "prefer", "(I)I"⟩ ⟨"KindTablesModel", "prefer", "(I)I"⟩ ∈ tw := tw_4 (i := 6) rfl rfl
theorem tm4_7 : Cond.code ⟨"KindTablesModel", "prefer", "(I)I"⟩ prog_7_method_18_code 4 (some .int) ∈ tw := tw_4 (i := 7) rfl rfl
theorem tm4_8 : Cond.methodLink "KindTablesLaw" 133 ⟨"KindTablesModel", "wrong", "(III)I"⟩ ∈ tw := tw_4 (i := 8) rfl rfl
theorem tm4_9 : Cond.instanceMethod ⟨"KindTablesModel", "wrong", "(III)I"⟩ ∈ tw := tw_4 (i := 9) rfl rfl
theorem tm4_10 : Cond.selects "KindTablesModel" ⟨"KindTablesModel", "wrong", "(III)I"⟩ ⟨"KindTablesModel", "wrong", "(III)I"⟩ ∈ tw := tw_4 (i := 10) rfl rfl
theorem tm4_11 : Cond.code ⟨"KindTablesModel", "wrong", "(III)I"⟩ prog_7_method_21_code 7 (some .int) ∈ tw := tw_4 (i := 11) rfl rfl
theorem tm4_12 : Cond.methodLink "KindTablesModel" 89 ⟨"KindTablesModel", "part", "(JJI)J"⟩ ∈ tw := tw_4 (i := 12) rfl rfl
theorem tm4_13 : Cond.static ⟨"KindTablesModel", "part", "(JJI)J"⟩ ∈ tw := tw_4 (i := 13) rfl rfl
theorem tm4_14 : Cond.code ⟨"KindTablesModel", "part", "(JJI)J"⟩ prog_7_method_20_code 7 (some .long) ∈ tw := tw_4 (i := 14) rfl rfl
theorem tm4_15 : Cond.methodLink "KindTablesModel" 85 ⟨"KindTablesModel", "divisor", "(JJ)J"⟩ ∈ tw := tw_4 (i := 15) rfl rfl
theorem tm4_16 : Cond.static ⟨"KindTablesModel", "divisor", "(JJ)J"⟩ ∈ tw := tw_4 (i := 16) rfl rfl
theorem tm4_17 : Cond.code ⟨"KindTablesModel", "divisor", "(JJ)J"⟩ prog_7_method_19_code 10 (some .long) ∈ tw := tw_4 (i := 17) rfl rfl
theorem tm4_18 : Cond.methodLink "KindTablesLaw" 136 ⟨"KindTablesModel", "right", "(I)I"⟩ ∈ tw := tw_4 (i := 18) rfl rfl
theorem tm4_19 : Cond.instanceMethod ⟨"KindTablesModel", "right", "(I)I"⟩ ∈ tw := tw_4 (i := 19) rfl rfl
theorem tm4_20 : Cond.selects "KindTablesModel" ⟨"KindTablesModel", "right", "(I)I"⟩ ⟨"KindTablesModel", "right", "(I)I"⟩ ∈ tw := tw_4 (i := 20) rfl rfl
theorem tm4_21 : Cond.code ⟨"KindTablesModel", "right", "(I)I"⟩ prog_7_method_23_code 2 (some .int) ∈ tw := tw_4 (i := 21) rfl rfl
theorem tm4_22 : Cond.methodLink "KindTablesModel" 93 ⟨"KindTablesModel", "rightOf", "(I)I"⟩ ∈ tw := tw_4 (i := 22) rfl rfl
theorem tm4_24 : Cond.instanceMethod ⟨"KindTablesModel", "rightOf", "(I)I"⟩ ∈ tw := tw_4 (i := 24) rfl rfl
theorem tm4_25 : Cond.code ⟨"KindTablesModel", "rightOf", "(I)I"⟩ prog_7_method_22_code 4 (some .int) ∈ tw := tw_4 (i := 25) rfl rfl
theorem tm4_26 : Cond.methodLink "KindTablesLaw" 139 ⟨"KindTablesModel", "best", "(I)I"⟩ ∈ tw := tw_4 (i := 26) rfl rfl
theorem tm4_27 : Cond.instanceMethod ⟨"KindTablesModel", "best", "(I)I"⟩ ∈ tw := tw_4 (i := 27) rfl rfl
theorem tm4_28 : Cond.selects "KindTablesModel" ⟨"KindTablesModel", "best", "(I)I"⟩ ⟨"KindTablesModel", "best", "(I)I"⟩ ∈ tw := tw_4 (i := 28) rfl rfl
theorem tm4_29 : Cond.code ⟨"KindTablesModel", "best", "(I)I"⟩ prog_7_method_24_code 6 (some .int) ∈ tw := tw_4 (i := 29) rfl rfl
theorem tm4_30 : Cond.methodLink "KindTablesLaw" 143 ⟨"KindTablesModel", "unknown", "()I"⟩ ∈ tw := tw_4 (i := 30) rfl rfl
theorem tm4_31 : Cond.instanceMethod ⟨"KindTablesModel", "unknown", "()I"⟩ ∈ tw := tw_4 (i := 31) rfl rfl
theorem tm4_32 : Cond.selects "KindTablesModel" ⟨"KindTablesModel", "unknown", "()I"⟩ ⟨"KindTablesModel", "unknown", "()I"⟩ ∈ tw := tw_4 (i := 32) rfl rfl
theorem tm4_33 : Cond.code ⟨"KindTablesModel", "unknown", "()I"⟩ prog_7_method_25_code 3 (some .int) ∈ tw := tw_4 (i := 33) rfl rfl
theorem tm4_34 : Cond.methodLink "KindTablesLaw" 146 ⟨"KindTablesModel", "mixed", "(II)I"⟩ ∈ tw := tw_4 (i := 34) rfl rfl
theorem tm4_35 : Cond.instanceMethod ⟨"KindTablesModel", "mixed", "(II)I"⟩ ∈ tw := tw_4 (i := 35) rfl rfl
theorem tm4_36 : Cond.selects "KindTablesModel" ⟨"KindTablesModel", "mixed", "(II)I"⟩ ⟨"KindTablesModel", "mixed", "(II)I"⟩ ∈ tw := tw_4 (i := 36) rfl rfl
theorem tm4_37 : Cond.code ⟨"KindTablesModel", "mixed", "(II)I"⟩ prog_7_method_26_code 7 (some .int) ∈ tw := tw_4 (i := 37) rfl rfl
theorem tm4_38 : Cond.methodLink "KindTablesLaw" 149 ⟨"KindTablesModel", "groups", "(I)I"⟩ ∈ tw := tw_4 (i := 38) rfl rfl
theorem tm4_39 : Cond.instanceMethod ⟨"KindTablesModel", "groups", "(I)I"⟩ ∈ tw := tw_4 (i := 39) rfl rfl
theorem tm4_40 : Cond.selects "KindTablesModel" ⟨"KindTablesModel", "groups", "(I)I"⟩ ⟨"KindTablesModel", "groups", "(I)I"⟩ ∈ tw := tw_4 (i := 40) rfl rfl
theorem tm4_41 : Cond.code ⟨"KindTablesModel", "groups", "(I)I"⟩ prog_7_method_28_code 7 (some .int) ∈ tw := tw_4 (i := 41) rfl rfl
theorem tm4_42 : Cond.methodLink "KindTablesModel" 97 ⟨"KindTablesModel", "alike", "(III)Z"⟩ ∈ tw := tw_4 (i := 42) rfl rfl
theorem tm4_44 : Cond.instanceMethod ⟨"KindTablesModel", "alike", "(III)Z"⟩ ∈ tw := tw_4 (i := 44) rfl rfl
theorem tm4_45 : Cond.code ⟨"KindTablesModel", "alike", "(III)Z"⟩ prog_7_method_27_code 6 (some .boolean) ∈ tw := tw_4 (i := 45) rfl rfl
theorem tm4_46 : Cond.methodLink "KindTablesLaw" 152 ⟨"KindTablesModel", "nearest", "(II)I"⟩ ∈ tw := tw_4 (i := 46) rfl rfl
theorem tm4_47 : Cond.instanceMethod ⟨"KindTablesModel", "nearest", "(II)I"⟩ ∈ tw := tw_4 (i := 47) rfl rfl
theorem tm4_48 : Cond.selects "KindTablesModel" ⟨"KindTablesModel", "nearest", "(II)I"⟩ ⟨"KindTablesModel", "nearest", "(II)I"⟩ ∈ tw := tw_4 (i := 48) rfl rfl
theorem tm4_49 : Cond.code ⟨"KindTablesModel", "nearest", "(II)I"⟩ prog_7_method_31_code 7 (some .int) ∈ tw := tw_4 (i := 49) rfl rfl
theorem tm4_50 : Cond.methodLink "KindTablesModel" 100 ⟨"KindTablesModel", "apart", "(II)I"⟩ ∈ tw := tw_4 (i := 50) rfl rfl
theorem tm4_52 : Cond.instanceMethod ⟨"KindTablesModel", "apart", "(II)I"⟩ ∈ tw := tw_4 (i := 52) rfl rfl
theorem tm4_53 : Cond.code ⟨"KindTablesModel", "apart", "(II)I"⟩ prog_7_method_29_code 6 (some .int) ∈ tw := tw_4 (i := 53) rfl rfl
theorem tm4_54 : Cond.methodLink "KindTablesModel" 103 ⟨"KindTablesModel", "isNear", "(II)Z"⟩ ∈ tw := tw_4 (i := 54) rfl rfl
theorem tm4_56 : Cond.instanceMethod ⟨"KindTablesModel", "isNear", "(II)Z"⟩ ∈ tw := tw_4 (i := 56) rfl rfl
theorem tm4_57 : Cond.code ⟨"KindTablesModel", "isNear", "(II)Z"⟩ prog_7_method_30_code 3 (some .boolean) ∈ tw := tw_4 (i := 57) rfl rfl
theorem tm4_58 : Cond.methodLink "KindTablesLaw" 155 ⟨"KindTablesModel", "distance", "(II)I"⟩ ∈ tw := tw_4 (i := 58) rfl rfl
theorem tm4_59 : Cond.instanceMethod ⟨"KindTablesModel", "distance", "(II)I"⟩ ∈ tw := tw_4 (i := 59) rfl rfl
theorem tm4_60 : Cond.selects "KindTablesModel" ⟨"KindTablesModel", "distance", "(II)I"⟩ ⟨"KindTablesModel", "distance", "(II)I"⟩ ∈ tw := tw_4 (i := 60) rfl rfl
theorem tm4_61 : Cond.code ⟨"KindTablesModel", "distance", "(II)I"⟩ prog_7_method_32_code 3 (some .int) ∈ tw := tw_4 (i := 61) rfl rfl
theorem tm4_62 : Cond.methodLink "KindTablesLaw" 158 ⟨"KindTablesModel", "haul", "(II)I"⟩ ∈ tw := tw_4 (i := 62) rfl rfl
theorem tm4_63 : Cond.instanceMethod ⟨"KindTablesModel", "haul", "(II)I"⟩ ∈ tw := tw_4 (i := 63) rfl rfl
theorem tm4_64 : Cond.selects "KindTablesModel" ⟨"KindTablesModel", "haul", "(II)I"⟩ ⟨"KindTablesModel", "haul", "(II)I"⟩ ∈ tw := tw_4 (i := 64) rfl rfl
theorem tm4_65 : Cond.code ⟨"KindTablesModel", "haul", "(II)I"⟩ prog_7_method_33_code 3 (some .int) ∈ tw := tw_4 (i := 65) rfl rfl
theorem tm4_66 : Cond.methodLink "KindTablesLaw" 161 ⟨"KindTablesModel", "grams", "(III)I"⟩ ∈ tw := tw_4 (i := 66) rfl rfl
theorem tm4_67 : Cond.instanceMethod ⟨"KindTablesModel", "grams", "(III)I"⟩ ∈ tw := tw_4 (i := 67) rfl rfl
theorem tm4_68 : Cond.selects "KindTablesModel" ⟨"KindTablesModel", "grams", "(III)I"⟩ ⟨"KindTablesModel", "grams", "(III)I"⟩ ∈ tw := tw_4 (i := 68) rfl rfl
theorem tm4_69 : Cond.code ⟨"KindTablesModel", "grams", "(III)I"⟩ prog_7_method_34_code 5 (some .int) ∈ tw := tw_4 (i := 69) rfl rfl
theorem tm4_70 : Cond.methodLink "KindTablesLaw" 165 ⟨"KindTablesModel", "share", "(IIII)J"⟩ ∈ tw := tw_4 (i := 70) rfl rfl
theorem tm4_71 : Cond.instanceMethod ⟨"KindTablesModel", "share", "(IIII)J"⟩ ∈ tw := tw_4 (i := 71) rfl rfl
theorem tm4_72 : Cond.selects "KindTablesModel" ⟨"KindTablesModel", "share", "(IIII)J"⟩ ⟨"KindTablesModel", "share", "(IIII)J"⟩ ∈ tw := tw_4 (i := 72) rfl rfl
theorem tm4_73 : Cond.code ⟨"KindTablesModel", "share", "(IIII)J"⟩ prog_7_method_38_code 13 (some .long) ∈ tw := tw_4 (i := 73) rfl rfl
theorem tm4_74 : Cond.methodLink "KindTablesModel" 118 ⟨"KindTablesModel", "nearHaul", "(III)I"⟩ ∈ tw := tw_4 (i := 74) rfl rfl
theorem tm4_76 : Cond.instanceMethod ⟨"KindTablesModel", "nearHaul", "(III)I"⟩ ∈ tw := tw_4 (i := 76) rfl rfl
theorem tm4_77 : Cond.code ⟨"KindTablesModel", "nearHaul", "(III)I"⟩ prog_7_method_37_code 6 (some .int) ∈ tw := tw_4 (i := 77) rfl rfl
theorem tm4_78 : Cond.methodLink "KindTablesModel" 110 ⟨"KindTablesModel", "all", "(I)J"⟩ ∈ tw := tw_4 (i := 78) rfl rfl
theorem tm4_80 : Cond.instanceMethod ⟨"KindTablesModel", "all", "(I)J"⟩ ∈ tw := tw_4 (i := 80) rfl rfl
theorem tm4_81 : Cond.code ⟨"KindTablesModel", "all", "(I)J"⟩ prog_7_method_35_code 5 (some .long) ∈ tw := tw_4 (i := 81) rfl rfl
theorem tm4_82 : Cond.methodLink "KindTablesModel" 114 ⟨"KindTablesModel", "square", "(III)J"⟩ ∈ tw := tw_4 (i := 82) rfl rfl
theorem tm4_84 : Cond.instanceMethod ⟨"KindTablesModel", "square", "(III)J"⟩ ∈ tw := tw_4 (i := 84) rfl rfl
theorem tm4_85 : Cond.code ⟨"KindTablesModel", "square", "(III)J"⟩ prog_7_method_36_code 4 (some .long) ∈ tw := tw_4 (i := 85) rfl rfl
theorem tm4_86 : Cond.methodLink "KindTablesLaw" 168 ⟨"KindTablesModel", "law", "(III)I"⟩ ∈ tw := tw_4 (i := 86) rfl rfl
theorem tm4_87 : Cond.instanceMethod ⟨"KindTablesModel", "law", "(III)I"⟩ ∈ tw := tw_4 (i := 87) rfl rfl
theorem tm4_88 : Cond.selects "KindTablesModel" ⟨"KindTablesModel", "law", "(III)I"⟩ ⟨"KindTablesModel", "law", "(III)I"⟩ ∈ tw := tw_4 (i := 88) rfl rfl
theorem tm4_89 : Cond.code ⟨"KindTablesModel", "law", "(III)I"⟩ prog_7_method_39_code 6 (some .int) ∈ tw := tw_4 (i := 89) rfl rfl
theorem tm4_90 : Cond.methodLink "KindTablesLaw" 171 ⟨"KindTablesModel", "strength", "(II)I"⟩ ∈ tw := tw_4 (i := 90) rfl rfl
theorem tm4_91 : Cond.instanceMethod ⟨"KindTablesModel", "strength", "(II)I"⟩ ∈ tw := tw_4 (i := 91) rfl rfl
theorem tm4_92 : Cond.selects "KindTablesModel" ⟨"KindTablesModel", "strength", "(II)I"⟩ ⟨"KindTablesModel", "strength", "(II)I"⟩ ∈ tw := tw_4 (i := 92) rfl rfl
theorem tm4_93 : Cond.code ⟨"KindTablesModel", "strength", "(II)I"⟩ prog_7_method_41_code 3 (some .int) ∈ tw := tw_4 (i := 93) rfl rfl
theorem tm4_94 : Cond.methodLink "KindTablesModel" 121 ⟨"KindTablesModel", "strengthAt", "(II)I"⟩ ∈ tw := tw_4 (i := 94) rfl rfl
theorem tm4_96 : Cond.instanceMethod ⟨"KindTablesModel", "strengthAt", "(II)I"⟩ ∈ tw := tw_4 (i := 96) rfl rfl
theorem tm4_97 : Cond.code ⟨"KindTablesModel", "strengthAt", "(II)I"⟩ prog_7_method_40_code 8 (some .int) ∈ tw := tw_4 (i := 97) rfl rfl
theorem tm4_98 : Cond.methodLink "KindTablesLaw" 174 ⟨"KindTablesModel", "length", "(II)I"⟩ ∈ tw := tw_4 (i := 98) rfl rfl
theorem tm4_99 : Cond.instanceMethod ⟨"KindTablesModel", "length", "(II)I"⟩ ∈ tw := tw_4 (i := 99) rfl rfl
theorem tm4_100 : Cond.selects "KindTablesModel" ⟨"KindTablesModel", "length", "(II)I"⟩ ⟨"KindTablesModel", "length", "(II)I"⟩ ∈ tw := tw_4 (i := 100) rfl rfl
theorem tm4_101 : Cond.code ⟨"KindTablesModel", "length", "(II)I"⟩ prog_7_method_42_code 5 (some .int) ∈ tw := tw_4 (i := 101) rfl rfl
theorem tm4_102 : Cond.methodLink "KindTablesLaw" 178 ⟨"KindTablesModel", "count", "(I)I"⟩ ∈ tw := tw_4 (i := 102) rfl rfl
theorem tm4_103 : Cond.instanceMethod ⟨"KindTablesModel", "count", "(I)I"⟩ ∈ tw := tw_4 (i := 103) rfl rfl
theorem tm4_104 : Cond.selects "KindTablesModel" ⟨"KindTablesModel", "count", "(I)I"⟩ ⟨"KindTablesModel", "count", "(I)I"⟩ ∈ tw := tw_4 (i := 104) rfl rfl
theorem tm4_105 : Cond.code ⟨"KindTablesModel", "count", "(I)I"⟩ prog_7_method_43_code 4 (some .int) ∈ tw := tw_4 (i := 105) rfl rfl
theorem tm4_106 : Cond.arrayClass .long ∈ tw := tw_4 (i := 106) rfl rfl
theorem tm4_107 : Cond.sameMethod "java/lang/Throwable" "java/lang/Throwable" "fillInStackTrace" "(I)Ljava/lang/Throwable;" ∈ tw := tw_4 (i := 107) rfl rfl
theorem tp_0 : Cond.selects "KindTables$Teller" ⟨"KindTables$Teller", "toldBy", "(III)I"⟩ ⟨"KindTables$Teller", "toldBy", "(III)I"⟩ ∈ tw := tw_p (i := 0) rfl rfl
theorem tp_1 : Cond.selects "KindTables$Teller" ⟨"KindTables$Teller", "takeVotes", "(III)V"⟩ ⟨"KindTables$Teller", "takeVotes", "(III)V"⟩ ∈ tw := tw_p (i := 1) rfl rfl
theorem tp_2 : Cond.selects "KindTables" ⟨"KindTables", "needKindOrNone", "(I)V"⟩ ⟨"KindTables", "needKindOrNone", "(I)V"⟩ ∈ tw := tw_p (i := 2) rfl rfl
theorem tp_3 : Cond.selects "KindTables" ⟨"KindTables", "needKind", "(I)V"⟩ ⟨"KindTables", "needKind", "(I)V"⟩ ∈ tw := tw_p (i := 3) rfl rfl
theorem tp_4 : Cond.selects "java/lang/Throwable" ⟨"java/lang/Throwable", "fillInStackTrace", "(I)Ljava/lang/Throwable;"⟩ ⟨"java/lang/Throwable", "fillInStackTrace", "(I)Ljava/lang/Throwable;"⟩ ∈ tw := tw_p (i := 4) rfl rfl
theorem tp_5 : Cond.selects "KindTables" ⟨"KindTables", "needExample", "(I)V"⟩ ⟨"KindTables", "needExample", "(I)V"⟩ ∈ tw := tw_p (i := 5) rfl rfl
theorem tp_6 : Cond.selects "KindTables" ⟨"KindTables", "needFeature", "(I)V"⟩ ⟨"KindTables", "needFeature", "(I)V"⟩ ∈ tw := tw_p (i := 6) rfl rfl
theorem tp_7 : Cond.selects "KindTables$Teller" ⟨"KindTables$Teller", "placeOf", "(I)I"⟩ ⟨"KindTables$Teller", "placeOf", "(I)I"⟩ ∈ tw := tw_p (i := 7) rfl rfl
theorem tp_8 : Cond.selects "KindTables$Teller" ⟨"KindTables$Teller", "countBefore", "(I)I"⟩ ⟨"KindTables$Teller", "countBefore", "(I)I"⟩ ∈ tw := tw_p (i := 8) rfl rfl
theorem tp_9 : Cond.selects "KindTables$Examples" ⟨"KindTables$Examples", "joinGroups", "(II)V"⟩ ⟨"KindTables$Examples", "joinGroups", "(II)V"⟩ ∈ tw := tw_p (i := 9) rfl rfl
theorem tp_10 : Cond.selects "KindTables$Examples" ⟨"KindTables$Examples", "isCandidate", "(II)Z"⟩ ⟨"KindTables$Examples", "isCandidate", "(II)Z"⟩ ∈ tw := tw_p (i := 10) rfl rfl
theorem tp_11 : Cond.selects "KindTables$Examples" ⟨"KindTables$Examples", "countNearer", "(II)I"⟩ ⟨"KindTables$Examples", "countNearer", "(II)I"⟩ ∈ tw := tw_p (i := 11) rfl rfl
theorem tp_12 : Cond.selects "KindTables" ⟨"KindTables", "needHaul", "(I)V"⟩ ⟨"KindTables", "needHaul", "(I)V"⟩ ∈ tw := tw_p (i := 12) rfl rfl
theorem tp_13 : Cond.selects "KindTables$Hauls" ⟨"KindTables$Hauls", "nearestFilled", "(III)I"⟩ ⟨"KindTables$Hauls", "nearestFilled", "(III)I"⟩ ∈ tw := tw_p (i := 13) rfl rfl
theorem tp_14 : Cond.selects "KindTables$Hauls" ⟨"KindTables$Hauls", "allGrams", "(I)I"⟩ ⟨"KindTables$Hauls", "allGrams", "(I)I"⟩ ∈ tw := tw_p (i := 14) rfl rfl
theorem tp_15 : Cond.selects "KindTables$Hauls" ⟨"KindTables$Hauls", "squareTo", "(III)I"⟩ ⟨"KindTables$Hauls", "squareTo", "(III)I"⟩ ∈ tw := tw_p (i := 15) rfl rfl
theorem tp_16 : Cond.selects "KindTables$Law" ⟨"KindTables$Law", "strengthBefore", "(II)I"⟩ ⟨"KindTables$Law", "strengthBefore", "(II)I"⟩ ∈ tw := tw_p (i := 16) rfl rfl
theorem tp_17 : Cond.selects "KindTables$Law" ⟨"KindTables$Law", "leastLengthBefore", "(II)I"⟩ ⟨"KindTables$Law", "leastLengthBefore", "(II)I"⟩ ∈ tw := tw_p (i := 17) rfl rfl
theorem tp_18 : Cond.selects "KindTablesModel" ⟨"KindTablesModel", "isKind", "(I)Z"⟩ ⟨"KindTablesModel", "isKind", "(I)Z"⟩ ∈ tw := tw_p (i := 18) rfl rfl
theorem tp_19 : Cond.selects "KindTablesModel" ⟨"KindTablesModel", "isExample", "(I)Z"⟩ ⟨"KindTablesModel", "isExample", "(I)Z"⟩ ∈ tw := tw_p (i := 19) rfl rfl
theorem tp_20 : Cond.selects "KindTablesModel" ⟨"KindTablesModel", "isFeature", "(I)Z"⟩ ⟨"KindTablesModel", "isFeature", "(I)Z"⟩ ∈ tw := tw_p (i := 20) rfl rfl
theorem tp_21 : Cond.selects "KindTablesModel" ⟨"KindTablesModel", "cellOf", "(II)I"⟩ ⟨"KindTablesModel", "cellOf", "(II)I"⟩ ∈ tw := tw_p (i := 21) rfl rfl
theorem tp_22 : Cond.selects "KindTablesModel" ⟨"KindTablesModel", "votesOf", "(IIII)I"⟩ ⟨"KindTablesModel", "votesOf", "(IIII)I"⟩ ∈ tw := tw_p (i := 22) rfl rfl
theorem tp_23 : Cond.selects "KindTablesModel" ⟨"KindTablesModel", "toldBy", "(III)I"⟩ ⟨"KindTablesModel", "toldBy", "(III)I"⟩ ∈ tw := tw_p (i := 23) rfl rfl
theorem tp_24 : Cond.selects "KindTablesModel" ⟨"KindTablesModel", "rightOf", "(I)I"⟩ ⟨"KindTablesModel", "rightOf", "(I)I"⟩ ∈ tw := tw_p (i := 24) rfl rfl
theorem tp_25 : Cond.selects "KindTablesModel" ⟨"KindTablesModel", "alike", "(III)Z"⟩ ⟨"KindTablesModel", "alike", "(III)Z"⟩ ∈ tw := tw_p (i := 25) rfl rfl
theorem tp_26 : Cond.selects "KindTablesModel" ⟨"KindTablesModel", "apart", "(II)I"⟩ ⟨"KindTablesModel", "apart", "(II)I"⟩ ∈ tw := tw_p (i := 26) rfl rfl
theorem tp_27 : Cond.selects "KindTablesModel" ⟨"KindTablesModel", "isNear", "(II)Z"⟩ ⟨"KindTablesModel", "isNear", "(II)Z"⟩ ∈ tw := tw_p (i := 27) rfl rfl
theorem tp_28 : Cond.selects "KindTablesModel" ⟨"KindTablesModel", "nearHaul", "(III)I"⟩ ⟨"KindTablesModel", "nearHaul", "(III)I"⟩ ∈ tw := tw_p (i := 28) rfl rfl
theorem tp_29 : Cond.selects "KindTablesModel" ⟨"KindTablesModel", "all", "(I)J"⟩ ⟨"KindTablesModel", "all", "(I)J"⟩ ∈ tw := tw_p (i := 29) rfl rfl
theorem tp_30 : Cond.selects "KindTablesModel" ⟨"KindTablesModel", "square", "(III)J"⟩ ⟨"KindTablesModel", "square", "(III)J"⟩ ∈ tw := tw_p (i := 30) rfl rfl
theorem tp_31 : Cond.selects "KindTablesModel" ⟨"KindTablesModel", "strengthAt", "(II)I"⟩ ⟨"KindTablesModel", "strengthAt", "(II)I"⟩ ∈ tw := tw_p (i := 31) rfl rfl
end
section
def T_KT : u_T := fun k => match k with
  | 0 => ("KindTables", "kinds", "I", true)
  | 1 => ("KindTables", "features", "I", true)
  | 2 => ("KindTables", "examples", "LKindTables$Examples;", true)
  | 3 => ("KindTables", "teller", "LKindTables$Teller;", true)
  | 4 => ("KindTables", "hauls", "LKindTables$Hauls;", true)
  | _ => ("KindTables", "laws", "[LKindTables$Law;", true)
def ty_KT : Nat → FieldType := fun k => match k with
  | 0 => .int
  | 1 => .int
  | 2 => .object "KindTables$Examples"
  | 3 => .object "KindTables$Teller"
  | 4 => .object "KindTables$Hauls"
  | _ => .array (.object "KindTables$Law")
theorem nm_KT : ∀ a, a < 6 → ∀ b, b < 6 → a ≠ b → (T_KT a).2.1 ≠ (T_KT b).2.1 := by decide +kernel
theorem ty_KT_ok : ∀ k, k < 6 → parseFieldDescriptor (T_KT k).2.2.1 = some (ty_KT k) := by decide +kernel
def T_Ex : u_T := fun k => match k with
  | 0 => ("KindTables$Examples", "features", "I", true)
  | 1 => ("KindTables$Examples", "numbers", "[[I", true)
  | 2 => ("KindTables$Examples", "taught", "[I", true)
  | 3 => ("KindTables$Examples", "widths", "[I", true)
  | 4 => ("KindTables$Examples", "groupOf", "[I", true)
  | _ => ("KindTables$Examples", "size", "I", false)
def ty_Ex : Nat → FieldType := fun k => match k with
  | 0 => .int
  | 1 => .array (.array (.int))
  | 2 => .array (.int)
  | 3 => .array (.int)
  | 4 => .array (.int)
  | _ => .int
theorem nm_Ex : ∀ a, a < 6 → ∀ b, b < 6 → a ≠ b → (T_Ex a).2.1 ≠ (T_Ex b).2.1 := by decide +kernel
theorem ty_Ex_ok : ∀ k, k < 6 → parseFieldDescriptor (T_Ex k).2.2.1 = some (ty_Ex k) := by decide +kernel
def T_Te : u_T := fun k => match k with
  | 0 => ("KindTables$Teller", "examples", "LKindTables$Examples;", true)
  | 1 => ("KindTables$Teller", "kinds", "I", true)
  | 2 => ("KindTables$Teller", "order", "[I", true)
  | 3 => ("KindTables$Teller", "tally", "[I", true)
  | 4 => ("KindTables$Teller", "rights", "[I", true)
  | _ => ("KindTables$Teller", "leastVotes", "I", false)
def ty_Te : Nat → FieldType := fun k => match k with
  | 0 => .object "KindTables$Examples"
  | 1 => .int
  | 2 => .array (.int)
  | 3 => .array (.int)
  | 4 => .array (.int)
  | _ => .int
theorem nm_Te : ∀ a, a < 6 → ∀ b, b < 6 → a ≠ b → (T_Te a).2.1 ≠ (T_Te b).2.1 := by decide +kernel
theorem ty_Te_ok : ∀ k, k < 6 → parseFieldDescriptor (T_Te k).2.2.1 = some (ty_Te k) := by decide +kernel
def T_Ha : u_T := fun k => match k with
  | 0 => ("KindTables$Hauls", "kinds", "I", true)
  | 1 => ("KindTables$Hauls", "xs", "[I", true)
  | 2 => ("KindTables$Hauls", "ys", "[I", true)
  | 3 => ("KindTables$Hauls", "catches", "[[I", true)
  | _ => ("KindTables$Hauls", "size", "I", false)
def ty_Ha : Nat → FieldType := fun k => match k with
  | 0 => .int
  | 1 => .array (.int)
  | 2 => .array (.int)
  | 3 => .array (.array (.int))
  | _ => .int
theorem nm_Ha : ∀ a, a < 5 → ∀ b, b < 5 → a ≠ b → (T_Ha a).2.1 ≠ (T_Ha b).2.1 := by decide +kernel
theorem ty_Ha_ok : ∀ k, k < 5 → parseFieldDescriptor (T_Ha k).2.2.1 = some (ty_Ha k) := by decide +kernel
def T_La : u_T := fun k => match k with
  | 0 => ("KindTables$Law", "lengths", "[I", true)
  | 1 => ("KindTables$Law", "strengths", "[I", true)
  | _ => ("KindTables$Law", "rows", "I", false)
def ty_La : Nat → FieldType := fun k => match k with
  | 0 => .array (.int)
  | 1 => .array (.int)
  | _ => .int
theorem nm_La : ∀ a, a < 3 → ∀ b, b < 3 → a ≠ b → (T_La a).2.1 ≠ (T_La b).2.1 := by decide +kernel
theorem ty_La_ok : ∀ k, k < 3 → parseFieldDescriptor (T_La k).2.2.1 = some (ty_La k) := by decide +kernel
def T_Mo : u_T := fun k => match k with
  | 0 => ("KindTablesModel", "thrown", "I", false)
  | 1 => ("KindTablesModel", "kinds", "I", true)
  | 2 => ("KindTablesModel", "features", "I", true)
  | 3 => ("KindTablesModel", "widths", "[I", true)
  | 4 => ("KindTablesModel", "examples", "I", false)
  | 5 => ("KindTablesModel", "taught", "[I", true)
  | 6 => ("KindTablesModel", "numbers", "[I", true)
  | 7 => ("KindTablesModel", "order", "[I", true)
  | 8 => ("KindTablesModel", "bound", "I", false)
  | 9 => ("KindTablesModel", "hauls", "I", false)
  | 10 => ("KindTablesModel", "xs", "[I", true)
  | 11 => ("KindTablesModel", "ys", "[I", true)
  | 12 => ("KindTablesModel", "grams", "[I", true)
  | 13 => ("KindTablesModel", "rows", "[I", true)
  | 14 => ("KindTablesModel", "rowLengths", "[I", true)
  | 15 => ("KindTablesModel", "rowStrengths", "[I", true)
  | _ => ("KindTablesModel", "group", "[I", true)
def ty_Mo : Nat → FieldType := fun k => match k with
  | 0 => .int
  | 1 => .int
  | 2 => .int
  | 3 => .array (.int)
  | 4 => .int
  | 5 => .array (.int)
  | 6 => .array (.int)
  | 7 => .array (.int)
  | 8 => .int
  | 9 => .int
  | 10 => .array (.int)
  | 11 => .array (.int)
  | 12 => .array (.int)
  | 13 => .array (.int)
  | 14 => .array (.int)
  | 15 => .array (.int)
  | _ => .array (.int)
theorem nm_Mo : ∀ a, a < 17 → ∀ b, b < 17 → a ≠ b → (T_Mo a).2.1 ≠ (T_Mo b).2.1 := by decide +kernel
theorem ty_Mo_ok : ∀ k, k < 17 → parseFieldDescriptor (T_Mo k).2.2.1 = some (ty_Mo k) := by decide +kernel
theorem in_KT : ∀ w ∈ u_ws "KindTables" T_KT 6, w ∈ tw := by
  intro w hw
  obtain ⟨k, hk, rfl⟩ := List.mem_map.mp hw
  have hk := List.mem_range.mp hk
  match k, hk with
  | 0, _ => exact tm1_138
  | 1, _ => exact tm1_140
  | 2, _ => exact tm1_142
  | 3, _ => exact tm1_144
  | 4, _ => exact tm1_146
  | 5, _ => exact tm1_148
  | k + 6, hk => exact absurd hk (by omega)
theorem inw_KT {c : Cond} : ∀ w ∈ u_ws "KindTables" T_KT 6, w ∈ c :: tw := fun w h => List.mem_cons_of_mem _ (in_KT w h)
theorem in_Ex : ∀ w ∈ u_ws "KindTables$Examples" T_Ex 6, w ∈ tw := by
  intro w hw
  obtain ⟨k, hk, rfl⟩ := List.mem_map.mp hw
  have hk := List.mem_range.mp hk
  match k, hk with
  | 0, _ => exact tm1_49
  | 1, _ => exact tm1_51
  | 2, _ => exact tm1_53
  | 3, _ => exact tm1_55
  | 4, _ => exact tm1_57
  | 5, _ => exact tm1_59
  | k + 6, hk => exact absurd hk (by omega)
theorem inw_Ex {c : Cond} : ∀ w ∈ u_ws "KindTables$Examples" T_Ex 6, w ∈ c :: tw := fun w h => List.mem_cons_of_mem _ (in_Ex w h)
theorem in_Te : ∀ w ∈ u_ws "KindTables$Teller" T_Te 6, w ∈ tw := by
  intro w hw
  obtain ⟨k, hk, rfl⟩ := List.mem_map.mp hw
  have hk := List.mem_range.mp hk
  match k, hk with
  | 0, _ => exact tm1_76
  | 1, _ => exact tm1_78
  | 2, _ => exact tm1_80
  | 3, _ => exact tm1_82
  | 4, _ => exact tm1_84
  | 5, _ => exact tm1_86
  | k + 6, hk => exact absurd hk (by omega)
theorem inw_Te {c : Cond} : ∀ w ∈ u_ws "KindTables$Teller" T_Te 6, w ∈ c :: tw := fun w h => List.mem_cons_of_mem _ (in_Te w h)
theorem in_Ha : ∀ w ∈ u_ws "KindTables$Hauls" T_Ha 5, w ∈ tw := by
  intro w hw
  obtain ⟨k, hk, rfl⟩ := List.mem_map.mp hw
  have hk := List.mem_range.mp hk
  match k, hk with
  | 0, _ => exact tm1_103
  | 1, _ => exact tm1_105
  | 2, _ => exact tm1_107
  | 3, _ => exact tm1_109
  | 4, _ => exact tm1_111
  | k + 5, hk => exact absurd hk (by omega)
theorem inw_Ha {c : Cond} : ∀ w ∈ u_ws "KindTables$Hauls" T_Ha 5, w ∈ c :: tw := fun w h => List.mem_cons_of_mem _ (in_Ha w h)
theorem in_La : ∀ w ∈ u_ws "KindTables$Law" T_La 3, w ∈ tw := by
  intro w hw
  obtain ⟨k, hk, rfl⟩ := List.mem_map.mp hw
  have hk := List.mem_range.mp hk
  match k, hk with
  | 0, _ => exact tm1_125
  | 1, _ => exact tm1_127
  | 2, _ => exact tm1_129
  | k + 3, hk => exact absurd hk (by omega)
theorem inw_La {c : Cond} : ∀ w ∈ u_ws "KindTables$Law" T_La 3, w ∈ c :: tw := fun w h => List.mem_cons_of_mem _ (in_La w h)
theorem in_Mo : ∀ w ∈ u_ws "KindTablesModel" T_Mo 17, w ∈ tw := by
  intro w hw
  obtain ⟨k, hk, rfl⟩ := List.mem_map.mp hw
  have hk := List.mem_range.mp hk
  match k, hk with
  | 0, _ => exact tm3_146
  | 1, _ => exact tm3_148
  | 2, _ => exact tm3_150
  | 3, _ => exact tm3_152
  | 4, _ => exact tm3_154
  | 5, _ => exact tm3_156
  | 6, _ => exact tm3_158
  | 7, _ => exact tm3_160
  | 8, _ => exact tm3_162
  | 9, _ => exact tm3_164
  | 10, _ => exact tm3_166
  | 11, _ => exact tm3_168
  | 12, _ => exact tm3_170
  | 13, _ => exact tm3_172
  | 14, _ => exact tm3_174
  | 15, _ => exact tm3_176
  | 16, _ => exact tm3_178
  | k + 17, hk => exact absurd hk (by omega)
theorem inw_Mo {c : Cond} : ∀ w ∈ u_ws "KindTablesModel" T_Mo 17, w ∈ c :: tw := fun w h => List.mem_cons_of_mem _ (in_Mo w h)
abbrev kC : List vw_C := [("KindTables", T_KT, 6), ("KindTables$Examples", T_Ex, 6), ("KindTables$Teller", T_Te, 6), ("KindTables$Hauls", T_Ha, 5), ("KindTables$Law", T_La, 3), ("KindTablesModel", T_Mo, 17)]
abbrev bKT_init : ByteArray := prog_1_method_1_code
abbrev yKT_init : MethodName := ⟨"KindTables", "<init>", "(II)V"⟩
abbrev wKT_init : List Cond := Cond.code yKT_init bKT_init 4 none :: tw
abbrev bKT_example : ByteArray := prog_1_method_2_code
abbrev yKT_example : MethodName := ⟨"KindTables", "example", "(I)I"⟩
abbrev wKT_example : List Cond := Cond.code yKT_example bKT_example 2 (some .int) :: tw
abbrev bKT_value : ByteArray := prog_1_method_3_code
abbrev yKT_value : MethodName := ⟨"KindTables", "value", "(III)Z"⟩
abbrev wKT_value : List Cond := Cond.code yKT_value bKT_value 5 (some .boolean) :: tw
abbrev bKT_teach : ByteArray := prog_1_method_4_code
abbrev yKT_teach : MethodName := ⟨"KindTables", "teach", "(II)I"⟩
abbrev wKT_teach : List Cond := Cond.code yKT_teach bKT_teach 4 (some .int) :: tw
abbrev bKT_width : ByteArray := prog_1_method_5_code
abbrev yKT_width : MethodName := ⟨"KindTables", "width", "(II)I"⟩
abbrev wKT_width : List Cond := Cond.code yKT_width bKT_width 4 (some .int) :: tw
abbrev bKT_cell : ByteArray := prog_1_method_6_code
abbrev yKT_cell : MethodName := ⟨"KindTables", "cell", "(II)I"⟩
abbrev wKT_cell : List Cond := Cond.code yKT_cell bKT_cell 3 (some .int) :: tw
abbrev bKT_votes : ByteArray := prog_1_method_7_code
abbrev yKT_votes : MethodName := ⟨"KindTables", "votes", "(II)I"⟩
abbrev wKT_votes : List Cond := Cond.code yKT_votes bKT_votes 3 (some .int) :: tw
abbrev bKT_tell : ByteArray := prog_1_method_8_code
abbrev yKT_tell : MethodName := ⟨"KindTables", "tell", "(I)I"⟩
abbrev wKT_tell : List Cond := Cond.code yKT_tell bKT_tell 2 (some .int) :: tw
abbrev bKT_bound : ByteArray := prog_1_method_9_code
abbrev yKT_bound : MethodName := ⟨"KindTables", "bound", "(I)I"⟩
abbrev wKT_bound : List Cond := Cond.code yKT_bound bKT_bound 3 (some .int) :: tw
abbrev bKT_prefer : ByteArray := prog_1_method_10_code
abbrev yKT_prefer : MethodName := ⟨"KindTables", "prefer", "(I)I"⟩
abbrev wKT_prefer : List Cond := Cond.code yKT_prefer bKT_prefer 2 (some .int) :: tw
abbrev bKT_wrong : ByteArray := prog_1_method_11_code
abbrev yKT_wrong : MethodName := ⟨"KindTables", "wrong", "(III)I"⟩
abbrev wKT_wrong : List Cond := Cond.code yKT_wrong bKT_wrong 4 (some .int) :: tw
abbrev bKT_right : ByteArray := prog_1_method_12_code
abbrev yKT_right : MethodName := ⟨"KindTables", "right", "(I)I"⟩
abbrev wKT_right : List Cond := Cond.code yKT_right bKT_right 2 (some .int) :: tw
abbrev bKT_best : ByteArray := prog_1_method_13_code
abbrev yKT_best : MethodName := ⟨"KindTables", "best", "(I)I"⟩
abbrev wKT_best : List Cond := Cond.code yKT_best bKT_best 2 (some .int) :: tw
abbrev bKT_unknown : ByteArray := prog_1_method_14_code
abbrev yKT_unknown : MethodName := ⟨"KindTables", "unknown", "()I"⟩
abbrev wKT_unknown : List Cond := Cond.code yKT_unknown bKT_unknown 1 (some .int) :: tw
abbrev bKT_mixed : ByteArray := prog_1_method_15_code
abbrev yKT_mixed : MethodName := ⟨"KindTables", "mixed", "(II)I"⟩
abbrev wKT_mixed : List Cond := Cond.code yKT_mixed bKT_mixed 4 (some .int) :: tw
abbrev bKT_groups : ByteArray := prog_1_method_16_code
abbrev yKT_groups : MethodName := ⟨"KindTables", "groups", "(I)I"⟩
abbrev wKT_groups : List Cond := Cond.code yKT_groups bKT_groups 2 (some .int) :: tw
abbrev bKT_nearest : ByteArray := prog_1_method_17_code
abbrev yKT_nearest : MethodName := ⟨"KindTables", "nearest", "(II)I"⟩
abbrev wKT_nearest : List Cond := Cond.code yKT_nearest bKT_nearest 3 (some .int) :: tw
abbrev bKT_distance : ByteArray := prog_1_method_18_code
abbrev yKT_distance : MethodName := ⟨"KindTables", "distance", "(II)I"⟩
abbrev wKT_distance : List Cond := Cond.code yKT_distance bKT_distance 3 (some .int) :: tw
abbrev bKT_haul : ByteArray := prog_1_method_19_code
abbrev yKT_haul : MethodName := ⟨"KindTables", "haul", "(II)I"⟩
abbrev wKT_haul : List Cond := Cond.code yKT_haul bKT_haul 3 (some .int) :: tw
abbrev bKT_grams : ByteArray := prog_1_method_20_code
abbrev yKT_grams : MethodName := ⟨"KindTables", "grams", "(III)I"⟩
abbrev wKT_grams : List Cond := Cond.code yKT_grams bKT_grams 5 (some .int) :: tw
abbrev bKT_share : ByteArray := prog_1_method_21_code
abbrev yKT_share : MethodName := ⟨"KindTables", "share", "(IIII)J"⟩
abbrev wKT_share : List Cond := Cond.code yKT_share bKT_share 5 (some .long) :: tw
abbrev bKT_law : ByteArray := prog_1_method_22_code
abbrev yKT_law : MethodName := ⟨"KindTables", "law", "(III)I"⟩
abbrev wKT_law : List Cond := Cond.code yKT_law bKT_law 5 (some .int) :: tw
abbrev bKT_strength : ByteArray := prog_1_method_23_code
abbrev yKT_strength : MethodName := ⟨"KindTables", "strength", "(II)I"⟩
abbrev wKT_strength : List Cond := Cond.code yKT_strength bKT_strength 3 (some .int) :: tw
abbrev bKT_length : ByteArray := prog_1_method_24_code
abbrev yKT_length : MethodName := ⟨"KindTables", "length", "(II)I"⟩
abbrev wKT_length : List Cond := Cond.code yKT_length bKT_length 3 (some .int) :: tw
abbrev bKT_count : ByteArray := prog_1_method_25_code
abbrev yKT_count : MethodName := ⟨"KindTables", "count", "(I)I"⟩
abbrev wKT_count : List Cond := Cond.code yKT_count bKT_count 2 (some .int) :: tw
abbrev bKT_needKind : ByteArray := prog_1_method_26_code
abbrev yKT_needKind : MethodName := ⟨"KindTables", "needKind", "(I)V"⟩
abbrev wKT_needKind : List Cond := Cond.code yKT_needKind bKT_needKind 2 none :: tw
abbrev bKT_needKindOrNone : ByteArray := prog_1_method_27_code
abbrev yKT_needKindOrNone : MethodName := ⟨"KindTables", "needKindOrNone", "(I)V"⟩
abbrev wKT_needKindOrNone : List Cond := Cond.code yKT_needKindOrNone bKT_needKindOrNone 2 none :: tw
abbrev bKT_needFeature : ByteArray := prog_1_method_28_code
abbrev yKT_needFeature : MethodName := ⟨"KindTables", "needFeature", "(I)V"⟩
abbrev wKT_needFeature : List Cond := Cond.code yKT_needFeature bKT_needFeature 2 none :: tw
abbrev bKT_needExample : ByteArray := prog_1_method_29_code
abbrev yKT_needExample : MethodName := ⟨"KindTables", "needExample", "(I)V"⟩
abbrev wKT_needExample : List Cond := Cond.code yKT_needExample bKT_needExample 2 none :: tw
abbrev bKT_needHaul : ByteArray := prog_1_method_30_code
abbrev yKT_needHaul : MethodName := ⟨"KindTables", "needHaul", "(I)V"⟩
abbrev wKT_needHaul : List Cond := Cond.code yKT_needHaul bKT_needHaul 2 none :: tw
abbrev bKT_needPart : ByteArray := prog_1_method_31_code
abbrev yKT_needPart : MethodName := ⟨"KindTables", "needPart", "(I)V"⟩
abbrev wKT_needPart : List Cond := Cond.code yKT_needPart bKT_needPart 1 none :: tw
abbrev bKT_needWithin : ByteArray := prog_1_method_32_code
abbrev yKT_needWithin : MethodName := ⟨"KindTables", "needWithin", "(III)V"⟩
abbrev wKT_needWithin : List Cond := Cond.code yKT_needWithin bKT_needWithin 3 none :: tw
abbrev bKT_needPlace : ByteArray := prog_1_method_33_code
abbrev yKT_needPlace : MethodName := ⟨"KindTables", "needPlace", "(II)V"⟩
abbrev wKT_needPlace : List Cond := Cond.code yKT_needPlace bKT_needPlace 2 none :: tw
abbrev bKT_partOf : ByteArray := prog_1_method_34_code
abbrev yKT_partOf : MethodName := ⟨"KindTables", "partOf", "(JJI)J"⟩
abbrev wKT_partOf : List Cond := Cond.code yKT_partOf bKT_partOf 7 (some .long) :: tw
abbrev bKT_commonDivisor : ByteArray := prog_1_method_35_code
abbrev yKT_commonDivisor : MethodName := ⟨"KindTables", "commonDivisor", "(JJ)J"⟩
abbrev wKT_commonDivisor : List Cond := Cond.code yKT_commonDivisor bKT_commonDivisor 11 (some .long) :: tw
abbrev bKT_square : ByteArray := prog_1_method_36_code
abbrev yKT_square : MethodName := ⟨"KindTables", "square", "(I)I"⟩
abbrev wKT_square : List Cond := Cond.code yKT_square bKT_square 1 (some .int) :: tw
abbrev bEx_init : ByteArray := prog_2_method_1_code
abbrev yEx_init : MethodName := ⟨"KindTables$Examples", "<init>", "(I)V"⟩
abbrev wEx_init : List Cond := Cond.code yEx_init bEx_init 3 none :: tw
abbrev bEx_add : ByteArray := prog_2_method_2_code
abbrev yEx_add : MethodName := ⟨"KindTables$Examples", "add", "(I)I"⟩
abbrev wEx_add : List Cond := Cond.code yEx_add bEx_add 2 (some .int) :: tw
abbrev bEx_cellOf : ByteArray := prog_2_method_3_code
abbrev yEx_cellOf : MethodName := ⟨"KindTables$Examples", "cellOf", "(II)I"⟩
abbrev wEx_cellOf : List Cond := Cond.code yEx_cellOf bEx_cellOf 3 (some .int) :: tw
abbrev bEx_sameCells : ByteArray := prog_2_method_4_code
abbrev yEx_sameCells : MethodName := ⟨"KindTables$Examples", "sameCells", "(IIII)I"⟩
abbrev wEx_sameCells : List Cond := Cond.code yEx_sameCells bEx_sameCells 7 (some .int) :: tw
abbrev bEx_countTaught : ByteArray := prog_2_method_5_code
abbrev yEx_countTaught : MethodName := ⟨"KindTables$Examples", "countTaught", "(I)I"⟩
abbrev wEx_countTaught : List Cond := Cond.code yEx_countTaught bEx_countTaught 4 (some .int) :: tw
abbrev bEx_squares : ByteArray := prog_2_method_6_code
abbrev yEx_squares : MethodName := ⟨"KindTables$Examples", "squares", "(II)I"⟩
abbrev wEx_squares : List Cond := Cond.code yEx_squares bEx_squares 5 (some .int) :: tw
abbrev bEx_neighbour : ByteArray := prog_2_method_7_code
abbrev yEx_neighbour : MethodName := ⟨"KindTables$Examples", "neighbour", "(II)I"⟩
abbrev wEx_neighbour : List Cond := Cond.code yEx_neighbour bEx_neighbour 4 (some .int) :: tw
abbrev bEx_isCandidate : ByteArray := prog_2_method_8_code
abbrev yEx_isCandidate : MethodName := ⟨"KindTables$Examples", "isCandidate", "(II)Z"⟩
abbrev wEx_isCandidate : List Cond := Cond.code yEx_isCandidate bEx_isCandidate 3 (some .boolean) :: tw
abbrev bEx_countNearer : ByteArray := prog_2_method_9_code
abbrev yEx_countNearer : MethodName := ⟨"KindTables$Examples", "countNearer", "(II)I"⟩
abbrev wEx_countNearer : List Cond := Cond.code yEx_countNearer bEx_countNearer 7 (some .int) :: tw
abbrev bEx_countGroups : ByteArray := prog_2_method_10_code
abbrev yEx_countGroups : MethodName := ⟨"KindTables$Examples", "countGroups", "(I)I"⟩
abbrev wEx_countGroups : List Cond := Cond.code yEx_countGroups bEx_countGroups 5 (some .int) :: tw
abbrev bEx_joinGroups : ByteArray := prog_2_method_11_code
abbrev yEx_joinGroups : MethodName := ⟨"KindTables$Examples", "joinGroups", "(II)V"⟩
abbrev wEx_joinGroups : List Cond := Cond.code yEx_joinGroups bEx_joinGroups 4 none :: tw
abbrev bTe_init : ByteArray := prog_5_method_1_code
abbrev yTe_init : MethodName := ⟨"KindTables$Teller", "<init>", "(LKindTables$Examples;I)V"⟩
abbrev wTe_init : List Cond := Cond.code yTe_init bTe_init 4 none :: tw
abbrev bTe_bringToFront : ByteArray := prog_5_method_2_code
abbrev yTe_bringToFront : MethodName := ⟨"KindTables$Teller", "bringToFront", "(I)I"⟩
abbrev wTe_bringToFront : List Cond := Cond.code yTe_bringToFront bTe_bringToFront 4 (some .int) :: tw
abbrev bTe_placeOf : ByteArray := prog_5_method_3_code
abbrev yTe_placeOf : MethodName := ⟨"KindTables$Teller", "placeOf", "(I)I"⟩
abbrev wTe_placeOf : List Cond := Cond.code yTe_placeOf bTe_placeOf 3 (some .int) :: tw
abbrev bTe_votesFor : ByteArray := prog_5_method_4_code
abbrev yTe_votesFor : MethodName := ⟨"KindTables$Teller", "votesFor", "(II)I"⟩
abbrev wTe_votesFor : List Cond := Cond.code yTe_votesFor bTe_votesFor 3 (some .int) :: tw
abbrev bTe_told : ByteArray := prog_5_method_5_code
abbrev yTe_told : MethodName := ⟨"KindTables$Teller", "told", "(I)I"⟩
abbrev wTe_told : List Cond := Cond.code yTe_told bTe_told 2 (some .int) :: tw
abbrev bTe_takeVotes : ByteArray := prog_5_method_6_code
abbrev yTe_takeVotes : MethodName := ⟨"KindTables$Teller", "takeVotes", "(III)V"⟩
abbrev wTe_takeVotes : List Cond := Cond.code yTe_takeVotes bTe_takeVotes 6 none :: tw
abbrev bTe_toldBy : ByteArray := prog_5_method_7_code
abbrev yTe_toldBy : MethodName := ⟨"KindTables$Teller", "toldBy", "(III)I"⟩
abbrev wTe_toldBy : List Cond := Cond.code yTe_toldBy bTe_toldBy 6 (some .int) :: tw
abbrev bTe_countTold : ByteArray := prog_5_method_8_code
abbrev yTe_countTold : MethodName := ⟨"KindTables$Teller", "countTold", "(II)I"⟩
abbrev wTe_countTold : List Cond := Cond.code yTe_countTold bTe_countTold 5 (some .int) :: tw
abbrev bTe_countUnknown : ByteArray := prog_5_method_9_code
abbrev yTe_countUnknown : MethodName := ⟨"KindTables$Teller", "countUnknown", "()I"⟩
abbrev wTe_countUnknown : List Cond := Cond.code yTe_countUnknown bTe_countUnknown 3 (some .int) :: tw
abbrev bTe_rightBy : ByteArray := prog_5_method_10_code
abbrev yTe_rightBy : MethodName := ⟨"KindTables$Teller", "rightBy", "(I)I"⟩
abbrev wTe_rightBy : List Cond := Cond.code yTe_rightBy bTe_rightBy 5 (some .int) :: tw
abbrev bTe_featureAt : ByteArray := prog_5_method_11_code
abbrev yTe_featureAt : MethodName := ⟨"KindTables$Teller", "featureAt", "(I)I"⟩
abbrev wTe_featureAt : List Cond := Cond.code yTe_featureAt bTe_featureAt 3 (some .int) :: tw
abbrev bTe_countBefore : ByteArray := prog_5_method_12_code
abbrev yTe_countBefore : MethodName := ⟨"KindTables$Teller", "countBefore", "(I)I"⟩
abbrev wTe_countBefore : List Cond := Cond.code yTe_countBefore bTe_countBefore 5 (some .int) :: tw
abbrev bHa_init : ByteArray := prog_3_method_1_code
abbrev yHa_init : MethodName := ⟨"KindTables$Hauls", "<init>", "(I)V"⟩
abbrev wHa_init : List Cond := Cond.code yHa_init bHa_init 2 none :: tw
abbrev bHa_add : ByteArray := prog_3_method_2_code
abbrev yHa_add : MethodName := ⟨"KindTables$Hauls", "add", "(II)I"⟩
abbrev wHa_add : List Cond := Cond.code yHa_add bHa_add 3 (some .int) :: tw
abbrev bHa_sharePart : ByteArray := prog_3_method_3_code
abbrev yHa_sharePart : MethodName := ⟨"KindTables$Hauls", "sharePart", "(IIII)J"⟩
abbrev wHa_sharePart : List Cond := Cond.code yHa_sharePart bHa_sharePart 17 (some .long) :: tw
abbrev bHa_nearestFilled : ByteArray := prog_3_method_4_code
abbrev yHa_nearestFilled : MethodName := ⟨"KindTables$Hauls", "nearestFilled", "(III)I"⟩
abbrev wHa_nearestFilled : List Cond := Cond.code yHa_nearestFilled bHa_nearestFilled 8 (some .int) :: tw
abbrev bHa_squareTo : ByteArray := prog_3_method_5_code
abbrev yHa_squareTo : MethodName := ⟨"KindTables$Hauls", "squareTo", "(III)I"⟩
abbrev wHa_squareTo : List Cond := Cond.code yHa_squareTo bHa_squareTo 4 (some .int) :: tw
abbrev bHa_allGrams : ByteArray := prog_3_method_6_code
abbrev yHa_allGrams : MethodName := ⟨"KindTables$Hauls", "allGrams", "(I)I"⟩
abbrev wHa_allGrams : List Cond := Cond.code yHa_allGrams bHa_allGrams 4 (some .int) :: tw
abbrev bLa_init : ByteArray := prog_4_method_1_code
abbrev yLa_init : MethodName := ⟨"KindTables$Law", "<init>", "()V"⟩
abbrev wLa_init : List Cond := Cond.code yLa_init bLa_init 1 none :: tw
abbrev bLa_lastLength : ByteArray := prog_4_method_2_code
abbrev yLa_lastLength : MethodName := ⟨"KindTables$Law", "lastLength", "()I"⟩
abbrev wLa_lastLength : List Cond := Cond.code yLa_lastLength bLa_lastLength 1 (some .int) :: tw
abbrev bLa_add : ByteArray := prog_4_method_3_code
abbrev yLa_add : MethodName := ⟨"KindTables$Law", "add", "(II)I"⟩
abbrev wLa_add : List Cond := Cond.code yLa_add bLa_add 3 (some .int) :: tw
abbrev bLa_strengthAt : ByteArray := prog_4_method_4_code
abbrev yLa_strengthAt : MethodName := ⟨"KindTables$Law", "strengthAt", "(I)I"⟩
abbrev wLa_strengthAt : List Cond := Cond.code yLa_strengthAt bLa_strengthAt 3 (some .int) :: tw
abbrev bLa_strengthBefore : ByteArray := prog_4_method_5_code
abbrev yLa_strengthBefore : MethodName := ⟨"KindTables$Law", "strengthBefore", "(II)I"⟩
abbrev wLa_strengthBefore : List Cond := Cond.code yLa_strengthBefore bLa_strengthBefore 5 (some .int) :: tw
abbrev bLa_leastLength : ByteArray := prog_4_method_6_code
abbrev yLa_leastLength : MethodName := ⟨"KindTables$Law", "leastLength", "(I)I"⟩
abbrev wLa_leastLength : List Cond := Cond.code yLa_leastLength bLa_leastLength 3 (some .int) :: tw
abbrev bLa_leastLengthBefore : ByteArray := prog_4_method_7_code
abbrev yLa_leastLengthBefore : MethodName := ⟨"KindTables$Law", "leastLengthBefore", "(II)I"⟩
abbrev wLa_leastLengthBefore : List Cond := Cond.code yLa_leastLengthBefore bLa_leastLengthBefore 6 (some .int) :: tw
abbrev bMo_init : ByteArray := prog_7_method_1_code
abbrev yMo_init : MethodName := ⟨"KindTablesModel", "<init>", "(II)V"⟩
abbrev wMo_init : List Cond := Cond.code yMo_init bMo_init 4 none :: tw
abbrev bMo_thrown : ByteArray := prog_7_method_2_code
abbrev yMo_thrown : MethodName := ⟨"KindTablesModel", "thrown", "()I"⟩
abbrev wMo_thrown : List Cond := Cond.code yMo_thrown bMo_thrown 1 (some .int) :: tw
abbrev bMo_isIn : ByteArray := prog_7_method_3_code
abbrev yMo_isIn : MethodName := ⟨"KindTablesModel", "isIn", "(III)Z"⟩
abbrev wMo_isIn : List Cond := Cond.code yMo_isIn bMo_isIn 3 (some .boolean) :: tw
abbrev bMo_isKind : ByteArray := prog_7_method_4_code
abbrev yMo_isKind : MethodName := ⟨"KindTablesModel", "isKind", "(I)Z"⟩
abbrev wMo_isKind : List Cond := Cond.code yMo_isKind bMo_isKind 2 (some .boolean) :: tw
abbrev bMo_isExample : ByteArray := prog_7_method_5_code
abbrev yMo_isExample : MethodName := ⟨"KindTablesModel", "isExample", "(I)Z"⟩
abbrev wMo_isExample : List Cond := Cond.code yMo_isExample bMo_isExample 2 (some .boolean) :: tw
abbrev bMo_isFeature : ByteArray := prog_7_method_6_code
abbrev yMo_isFeature : MethodName := ⟨"KindTablesModel", "isFeature", "(I)Z"⟩
abbrev wMo_isFeature : List Cond := Cond.code yMo_isFeature bMo_isFeature 2 (some .boolean) :: tw
abbrev bMo_example : ByteArray := prog_7_method_7_code
abbrev yMo_example : MethodName := ⟨"KindTablesModel", "example", "(I)I"⟩
abbrev wMo_example : List Cond := Cond.code yMo_example bMo_example 2 (some .int) :: tw
abbrev bMo_value : ByteArray := prog_7_method_8_code
abbrev yMo_value : MethodName := ⟨"KindTablesModel", "value", "(III)Z"⟩
abbrev wMo_value : List Cond := Cond.code yMo_value bMo_value 5 (some .boolean) :: tw
abbrev bMo_teach : ByteArray := prog_7_method_9_code
abbrev yMo_teach : MethodName := ⟨"KindTablesModel", "teach", "(II)I"⟩
abbrev wMo_teach : List Cond := Cond.code yMo_teach bMo_teach 4 (some .int) :: tw
abbrev bMo_width : ByteArray := prog_7_method_10_code
abbrev yMo_width : MethodName := ⟨"KindTablesModel", "width", "(II)I"⟩
abbrev wMo_width : List Cond := Cond.code yMo_width bMo_width 4 (some .int) :: tw
abbrev bMo_cellOf : ByteArray := prog_7_method_11_code
abbrev yMo_cellOf : MethodName := ⟨"KindTablesModel", "cellOf", "(II)I"⟩
abbrev wMo_cellOf : List Cond := Cond.code yMo_cellOf bMo_cellOf 3 (some .int) :: tw
abbrev bMo_cell : ByteArray := prog_7_method_12_code
abbrev yMo_cell : MethodName := ⟨"KindTablesModel", "cell", "(II)I"⟩
abbrev wMo_cell : List Cond := Cond.code yMo_cell bMo_cell 3 (some .int) :: tw
abbrev bMo_votesOf : ByteArray := prog_7_method_13_code
abbrev yMo_votesOf : MethodName := ⟨"KindTablesModel", "votesOf", "(IIII)I"⟩
abbrev wMo_votesOf : List Cond := Cond.code yMo_votesOf bMo_votesOf 8 (some .int) :: tw
abbrev bMo_votes : ByteArray := prog_7_method_14_code
abbrev yMo_votes : MethodName := ⟨"KindTablesModel", "votes", "(II)I"⟩
abbrev wMo_votes : List Cond := Cond.code yMo_votes bMo_votes 3 (some .int) :: tw
abbrev bMo_toldBy : ByteArray := prog_7_method_15_code
abbrev yMo_toldBy : MethodName := ⟨"KindTablesModel", "toldBy", "(III)I"⟩
abbrev wMo_toldBy : List Cond := Cond.code yMo_toldBy bMo_toldBy 8 (some .int) :: tw
abbrev bMo_tell : ByteArray := prog_7_method_16_code
abbrev yMo_tell : MethodName := ⟨"KindTablesModel", "tell", "(I)I"⟩
abbrev wMo_tell : List Cond := Cond.code yMo_tell bMo_tell 2 (some .int) :: tw
abbrev bMo_bound : ByteArray := prog_7_method_17_code
abbrev yMo_bound : MethodName := ⟨"KindTablesModel", "bound", "(I)I"⟩
abbrev wMo_bound : List Cond := Cond.code yMo_bound bMo_bound 3 (some .int) :: tw
abbrev bMo_prefer : ByteArray := prog_7_method_18_code
abbrev yMo_prefer : MethodName := ⟨"KindTablesModel", "prefer", "(I)I"⟩
abbrev wMo_prefer : List Cond := Cond.code yMo_prefer bMo_prefer 4 (some .int) :: tw
abbrev bMo_divisor : ByteArray := prog_7_method_19_code
abbrev yMo_divisor : MethodName := ⟨"KindTablesModel", "divisor", "(JJ)J"⟩
abbrev wMo_divisor : List Cond := Cond.code yMo_divisor bMo_divisor 10 (some .long) :: tw
abbrev bMo_part : ByteArray := prog_7_method_20_code
abbrev yMo_part : MethodName := ⟨"KindTablesModel", "part", "(JJI)J"⟩
abbrev wMo_part : List Cond := Cond.code yMo_part bMo_part 7 (some .long) :: tw
abbrev bMo_wrong : ByteArray := prog_7_method_21_code
abbrev yMo_wrong : MethodName := ⟨"KindTablesModel", "wrong", "(III)I"⟩
abbrev wMo_wrong : List Cond := Cond.code yMo_wrong bMo_wrong 7 (some .int) :: tw
abbrev bMo_rightOf : ByteArray := prog_7_method_22_code
abbrev yMo_rightOf : MethodName := ⟨"KindTablesModel", "rightOf", "(I)I"⟩
abbrev wMo_rightOf : List Cond := Cond.code yMo_rightOf bMo_rightOf 4 (some .int) :: tw
abbrev bMo_right : ByteArray := prog_7_method_23_code
abbrev yMo_right : MethodName := ⟨"KindTablesModel", "right", "(I)I"⟩
abbrev wMo_right : List Cond := Cond.code yMo_right bMo_right 2 (some .int) :: tw
abbrev bMo_best : ByteArray := prog_7_method_24_code
abbrev yMo_best : MethodName := ⟨"KindTablesModel", "best", "(I)I"⟩
abbrev wMo_best : List Cond := Cond.code yMo_best bMo_best 6 (some .int) :: tw
abbrev bMo_unknown : ByteArray := prog_7_method_25_code
abbrev yMo_unknown : MethodName := ⟨"KindTablesModel", "unknown", "()I"⟩
abbrev wMo_unknown : List Cond := Cond.code yMo_unknown bMo_unknown 3 (some .int) :: tw
abbrev bMo_mixed : ByteArray := prog_7_method_26_code
abbrev yMo_mixed : MethodName := ⟨"KindTablesModel", "mixed", "(II)I"⟩
abbrev wMo_mixed : List Cond := Cond.code yMo_mixed bMo_mixed 7 (some .int) :: tw
abbrev bMo_alike : ByteArray := prog_7_method_27_code
abbrev yMo_alike : MethodName := ⟨"KindTablesModel", "alike", "(III)Z"⟩
abbrev wMo_alike : List Cond := Cond.code yMo_alike bMo_alike 6 (some .boolean) :: tw
abbrev bMo_groups : ByteArray := prog_7_method_28_code
abbrev yMo_groups : MethodName := ⟨"KindTablesModel", "groups", "(I)I"⟩
abbrev wMo_groups : List Cond := Cond.code yMo_groups bMo_groups 7 (some .int) :: tw
abbrev bMo_apart : ByteArray := prog_7_method_29_code
abbrev yMo_apart : MethodName := ⟨"KindTablesModel", "apart", "(II)I"⟩
abbrev wMo_apart : List Cond := Cond.code yMo_apart bMo_apart 6 (some .int) :: tw
abbrev bMo_isNear : ByteArray := prog_7_method_30_code
abbrev yMo_isNear : MethodName := ⟨"KindTablesModel", "isNear", "(II)Z"⟩
abbrev wMo_isNear : List Cond := Cond.code yMo_isNear bMo_isNear 3 (some .boolean) :: tw
abbrev bMo_nearest : ByteArray := prog_7_method_31_code
abbrev yMo_nearest : MethodName := ⟨"KindTablesModel", "nearest", "(II)I"⟩
abbrev wMo_nearest : List Cond := Cond.code yMo_nearest bMo_nearest 7 (some .int) :: tw
abbrev bMo_distance : ByteArray := prog_7_method_32_code
abbrev yMo_distance : MethodName := ⟨"KindTablesModel", "distance", "(II)I"⟩
abbrev wMo_distance : List Cond := Cond.code yMo_distance bMo_distance 3 (some .int) :: tw
abbrev bMo_haul : ByteArray := prog_7_method_33_code
abbrev yMo_haul : MethodName := ⟨"KindTablesModel", "haul", "(II)I"⟩
abbrev wMo_haul : List Cond := Cond.code yMo_haul bMo_haul 3 (some .int) :: tw
abbrev bMo_grams : ByteArray := prog_7_method_34_code
abbrev yMo_grams : MethodName := ⟨"KindTablesModel", "grams", "(III)I"⟩
abbrev wMo_grams : List Cond := Cond.code yMo_grams bMo_grams 5 (some .int) :: tw
abbrev bMo_all : ByteArray := prog_7_method_35_code
abbrev yMo_all : MethodName := ⟨"KindTablesModel", "all", "(I)J"⟩
abbrev wMo_all : List Cond := Cond.code yMo_all bMo_all 5 (some .long) :: tw
abbrev bMo_square : ByteArray := prog_7_method_36_code
abbrev yMo_square : MethodName := ⟨"KindTablesModel", "square", "(III)J"⟩
abbrev wMo_square : List Cond := Cond.code yMo_square bMo_square 4 (some .long) :: tw
abbrev bMo_nearHaul : ByteArray := prog_7_method_37_code
abbrev yMo_nearHaul : MethodName := ⟨"KindTablesModel", "nearHaul", "(III)I"⟩
abbrev wMo_nearHaul : List Cond := Cond.code yMo_nearHaul bMo_nearHaul 6 (some .int) :: tw
abbrev bMo_share : ByteArray := prog_7_method_38_code
abbrev yMo_share : MethodName := ⟨"KindTablesModel", "share", "(IIII)J"⟩
abbrev wMo_share : List Cond := Cond.code yMo_share bMo_share 13 (some .long) :: tw
abbrev bMo_law : ByteArray := prog_7_method_39_code
abbrev yMo_law : MethodName := ⟨"KindTablesModel", "law", "(III)I"⟩
abbrev wMo_law : List Cond := Cond.code yMo_law bMo_law 6 (some .int) :: tw
abbrev bMo_strengthAt : ByteArray := prog_7_method_40_code
abbrev yMo_strengthAt : MethodName := ⟨"KindTablesModel", "strengthAt", "(II)I"⟩
abbrev wMo_strengthAt : List Cond := Cond.code yMo_strengthAt bMo_strengthAt 8 (some .int) :: tw
abbrev bMo_strength : ByteArray := prog_7_method_41_code
abbrev yMo_strength : MethodName := ⟨"KindTablesModel", "strength", "(II)I"⟩
abbrev wMo_strength : List Cond := Cond.code yMo_strength bMo_strength 3 (some .int) :: tw
abbrev bMo_length : ByteArray := prog_7_method_42_code
abbrev yMo_length : MethodName := ⟨"KindTablesModel", "length", "(II)I"⟩
abbrev wMo_length : List Cond := Cond.code yMo_length bMo_length 5 (some .int) :: tw
abbrev bMo_count : ByteArray := prog_7_method_43_code
abbrev yMo_count : MethodName := ⟨"KindTablesModel", "count", "(I)I"⟩
abbrev wMo_count : List Cond := Cond.code yMo_count bMo_count 4 (some .int) :: tw
abbrev bLw_at : ByteArray := method_2_code
abbrev yLw_at : MethodName := ⟨"KindTablesLaw", "cell", "([II)I"⟩
abbrev wLw_at : List Cond := Cond.code yLw_at bLw_at 2 (some .int) :: tw
abbrev bLw_example : ByteArray := method_3_code
abbrev yLw_example : MethodName := ⟨"KindTablesLaw", "example", "(LKindTables;I[J)I"⟩
abbrev wLw_example : List Cond := Cond.codeWith yLw_example bLw_example 4 (some .int) [(0, 9, 12, 13), (0, 9, 15, 15)] :: tw
abbrev bLw_value : ByteArray := method_4_code
abbrev yLw_value : MethodName := ⟨"KindTablesLaw", "value", "(LKindTables;III[J)I"⟩
abbrev wLw_value : List Cond := Cond.codeWith yLw_value bLw_value 6 (some .int) [(0, 19, 22, 13), (0, 19, 26, 21)] :: tw
abbrev bLw_teach : ByteArray := method_5_code
abbrev yLw_teach : MethodName := ⟨"KindTablesLaw", "teach", "(LKindTables;II[J)I"⟩
abbrev wLw_teach : List Cond := Cond.codeWith yLw_teach bLw_teach 5 (some .int) [(0, 10, 13, 13)] :: tw
abbrev bLw_width : ByteArray := method_6_code
abbrev yLw_width : MethodName := ⟨"KindTablesLaw", "width", "(LKindTables;II[J)I"⟩
abbrev wLw_width : List Cond := Cond.codeWith yLw_width bLw_width 5 (some .int) [(0, 10, 13, 13), (0, 10, 17, 21)] :: tw
abbrev bLw_cell : ByteArray := method_7_code
abbrev yLw_cell : MethodName := ⟨"KindTablesLaw", "cell", "(LKindTables;II[J)I"⟩
abbrev wLw_cell : List Cond := Cond.codeWith yLw_cell bLw_cell 5 (some .int) [(0, 10, 13, 13)] :: tw
abbrev bLw_votes : ByteArray := method_8_code
abbrev yLw_votes : MethodName := ⟨"KindTablesLaw", "votes", "(LKindTables;II[J)I"⟩
abbrev wLw_votes : List Cond := Cond.codeWith yLw_votes bLw_votes 5 (some .int) [(0, 10, 13, 13)] :: tw
abbrev bLw_tell : ByteArray := method_9_code
abbrev yLw_tell : MethodName := ⟨"KindTablesLaw", "tell", "(LKindTables;I[J)I"⟩
abbrev wLw_tell : List Cond := Cond.codeWith yLw_tell bLw_tell 4 (some .int) [(0, 9, 12, 13)] :: tw
abbrev bLw_bound : ByteArray := method_10_code
abbrev yLw_bound : MethodName := ⟨"KindTablesLaw", "bound", "(LKindTables;I[J)I"⟩
abbrev wLw_bound : List Cond := Cond.codeWith yLw_bound bLw_bound 4 (some .int) [(0, 9, 12, 21)] :: tw
abbrev bLw_prefer : ByteArray := method_11_code
abbrev yLw_prefer : MethodName := ⟨"KindTablesLaw", "prefer", "(LKindTables;I[J)I"⟩
abbrev wLw_prefer : List Cond := Cond.codeWith yLw_prefer bLw_prefer 4 (some .int) [(0, 9, 12, 13)] :: tw
abbrev bLw_wrong : ByteArray := method_12_code
abbrev yLw_wrong : MethodName := ⟨"KindTablesLaw", "wrong", "(LKindTables;III[J)I"⟩
abbrev wLw_wrong : List Cond := Cond.codeWith yLw_wrong bLw_wrong 6 (some .int) [(0, 12, 15, 13)] :: tw
abbrev bLw_right : ByteArray := method_13_code
abbrev yLw_right : MethodName := ⟨"KindTablesLaw", "right", "(LKindTables;I[J)I"⟩
abbrev wLw_right : List Cond := Cond.codeWith yLw_right bLw_right 4 (some .int) [(0, 9, 12, 13)] :: tw
abbrev bLw_best : ByteArray := method_14_code
abbrev yLw_best : MethodName := ⟨"KindTablesLaw", "best", "(LKindTables;I[J)I"⟩
abbrev wLw_best : List Cond := Cond.codeWith yLw_best bLw_best 4 (some .int) [(0, 9, 12, 13)] :: tw
abbrev bLw_mixed : ByteArray := method_15_code
abbrev yLw_mixed : MethodName := ⟨"KindTablesLaw", "mixed", "(LKindTables;II[J)I"⟩
abbrev wLw_mixed : List Cond := Cond.codeWith yLw_mixed bLw_mixed 5 (some .int) [(0, 10, 13, 13)] :: tw
abbrev bLw_groups : ByteArray := method_16_code
abbrev yLw_groups : MethodName := ⟨"KindTablesLaw", "groups", "(LKindTables;I[J)I"⟩
abbrev wLw_groups : List Cond := Cond.codeWith yLw_groups bLw_groups 4 (some .int) [(0, 9, 12, 21)] :: tw
abbrev bLw_nearest : ByteArray := method_17_code
abbrev yLw_nearest : MethodName := ⟨"KindTablesLaw", "nearest", "(LKindTables;II[J)I"⟩
abbrev wLw_nearest : List Cond := Cond.codeWith yLw_nearest bLw_nearest 5 (some .int) [(0, 10, 13, 13), (0, 10, 17, 21)] :: tw
abbrev bLw_distance : ByteArray := method_18_code
abbrev yLw_distance : MethodName := ⟨"KindTablesLaw", "distance", "(LKindTables;II[J)I"⟩
abbrev wLw_distance : List Cond := Cond.codeWith yLw_distance bLw_distance 5 (some .int) [(0, 10, 13, 13)] :: tw
abbrev bLw_haul : ByteArray := method_19_code
abbrev yLw_haul : MethodName := ⟨"KindTablesLaw", "haul", "(LKindTables;II[J)I"⟩
abbrev wLw_haul : List Cond := Cond.codeWith yLw_haul bLw_haul 5 (some .int) [(0, 10, 13, 21), (0, 10, 17, 15)] :: tw
abbrev bLw_grams : ByteArray := method_20_code
abbrev yLw_grams : MethodName := ⟨"KindTablesLaw", "grams", "(LKindTables;III[J)I"⟩
abbrev wLw_grams : List Cond := Cond.codeWith yLw_grams bLw_grams 6 (some .int) [(0, 12, 15, 13), (0, 12, 19, 21)] :: tw
abbrev bLw_share : ByteArray := method_21_code
abbrev yLw_share : MethodName := ⟨"KindTablesLaw", "share", "(LKindTables;IIII[J)I"⟩
abbrev wLw_share : List Cond := Cond.codeWith yLw_share bLw_share 7 (some .int) [(0, 13, 16, 13), (0, 13, 20, 21)] :: tw
abbrev bLw_law : ByteArray := method_22_code
abbrev yLw_law : MethodName := ⟨"KindTablesLaw", "law", "(LKindTables;III[J)I"⟩
abbrev wLw_law : List Cond := Cond.codeWith yLw_law bLw_law 6 (some .int) [(0, 12, 15, 13), (0, 12, 19, 21), (0, 12, 23, 15)] :: tw
abbrev bLw_strength : ByteArray := method_23_code
abbrev yLw_strength : MethodName := ⟨"KindTablesLaw", "strength", "(LKindTables;II[J)I"⟩
abbrev wLw_strength : List Cond := Cond.codeWith yLw_strength bLw_strength 5 (some .int) [(0, 10, 13, 13)] :: tw
abbrev bLw_length : ByteArray := method_24_code
abbrev yLw_length : MethodName := ⟨"KindTablesLaw", "length", "(LKindTables;II[J)I"⟩
abbrev wLw_length : List Cond := Cond.codeWith yLw_length bLw_length 5 (some .int) [(0, 10, 13, 13)] :: tw
abbrev bMa_floorDiv : ByteArray := prog_12_method_47_code
abbrev yMa_floorDiv : MethodName := ⟨"java/lang/Math", "floorDiv", "(II)I"⟩
abbrev wMa_floorDiv : List Cond := Cond.code yMa_floorDiv bMa_floorDiv 3 (some .int) :: tw
def kS (sa : Nat → Nat) : List (String × Nat × String × Nat) := [("KindTables", 188, "no such kind", sa 0), ("KindTables", 65, "no room for another example", sa 1), ("KindTables", 193, "no such example", sa 2), ("KindTables", 191, "no such feature", sa 3), ("KindTables", 199, "a number outside its bounds", sa 4), ("KindTables", 197, "no such part", sa 5), ("KindTables", 141, "a place below 0", sa 6), ("KindTables", 155, "no room for another haul", sa 7), ("KindTables", 195, "no such haul", sa 8), ("KindTables", 172, "a length not above the last row's", sa 9), ("KindTables", 177, "no room for another row", sa 10)]
end
section
/-- what stands fixed in a method's body -/
def jr_C (p : Program) (s : State) (m : MethodId) (args : Array Value) (c : Code) (cc : ByteArray) (nL : Nat) (own : String) (Ts : List Cond) (D : va_G) (cl : List vw_C) (tys : List (ClassId × FieldType)) (A : Nat → Prop) : Prop :=
  p.tables.exec = Jvm.exec ∧ c.code = cc ∧ c.maxLocals = nL ∧ s.vm.findClass own = some m.cls ∧ (∀ w ∈ Ts, w.before args s = true) ∧ va_K D cl tys s ∧ (∀ q : Nat, s.heap.size ≤ q → A q) ∧ jN s
/-- the machine at pc, with locals lv, operand stack stk and the world ws, comes to Q -/
def jr_J (p : Program) (l : Launch) (e : Env) (R : Room) (s : State) (m : MethodId) (args : Array Value) (below : List Frame) (meth : Method) (c : Code) (A : Nat → Prop) (D : va_G) (cl : List vw_C) (nL cells slots : Nat) (Q : State → Prop) (ws : va_W) (pc : Nat) (lv : List (Nat × Value)) (stk : List Value) : Prop :=
  ∀ (H : Heap) (locs : List Loc) (ls : Array Slot), va_P D cl ws H → va_D A ws → va_S A s.heap H locs → lv_has ls nL lv → W p l e R s m args below meth c H locs cells slots Q (F0 m pc ls stk)
section JR
variable {p : Program} {l : Launch} {e : Env} {R : Room} {s : State} {m : MethodId} {args : Array Value} {below : List Frame} {meth : Method} {c : Code} {A : Nat → Prop} {D : va_G} {cl : List vw_C} {nL cells slots : Nat} {Q : State → Prop} {ws : va_W} {pc : Nat} {lv : List (Nat × Value)} {rest : List Value}
variable {cc : ByteArray} {own : String} {Ts : List Cond} {tys : List (ClassId × FieldType)}
theorem jr_iconst (C : jr_C p s m args c cc nL own Ts D cl tys A) {n : Int} {v : Int32} (hdg : decode cc pc = .ok (.iconst n, 1)) (hv : Int32.ofInt n = v) (kk : jr_J p l e R s m args below meth c A D cl nL cells slots Q ws (pc + 1) lv (.int v :: rest)) : jr_J p l e R s m args below meth c A D cl nL cells slots Q ws pc lv rest :=
  fun H locs ls hP hD hS hl => lv_iconst C.1 C.2.1 hdg hv (kk H locs ls hP hD hS hl)
theorem jr_bipush (C : jr_C p s m args c cc nL own Ts D cl tys A) {n : Int} {v : Int32} (hdg : decode cc pc = .ok (.bipush n, 2)) (hv : (Int8.ofInt n).toInt32 = v) (kk : jr_J p l e R s m args below meth c A D cl nL cells slots Q ws (pc + 2) lv (.int v :: rest)) : jr_J p l e R s m args below meth c A D cl nL cells slots Q ws pc lv rest :=
  fun H locs ls hP hD hS hl => lv_bipush C.1 C.2.1 hdg hv (kk H locs ls hP hD hS hl)
theorem jr_sipush (C : jr_C p s m args c cc nL own Ts D cl tys A) {n : Int} {v : Int32} (hdg : decode cc pc = .ok (.sipush n, 3)) (hv : (Int16.ofInt n).toInt32 = v) (kk : jr_J p l e R s m args below meth c A D cl nL cells slots Q ws (pc + 3) lv (.int v :: rest)) : jr_J p l e R s m args below meth c A D cl nL cells slots Q ws pc lv rest :=
  fun H locs ls hP hD hS hl => lv_sipush C.1 C.2.1 hdg hv (kk H locs ls hP hD hS hl)
theorem jr_lconst (C : jr_C p s m args c cc nL own Ts D cl tys A) {n : Fin 2} {v : Int64} (hdg : decode cc pc = .ok (.lconst n, 1)) (hv : Int64.ofNat (n : Nat) = v) (kk : jr_J p l e R s m args below meth c A D cl nL cells slots Q ws (pc + 1) lv (.long v :: rest)) : jr_J p l e R s m args below meth c A D cl nL cells slots Q ws pc lv rest :=
  fun H locs ls hP hD hS hl => lv_lconst C.1 C.2.1 hdg hv (kk H locs ls hP hD hS hl)
theorem jr_iload_n (C : jr_C p s m args c cc nL own Ts D cl tys A) {k : Fin 4} {i q : Nat} {x : Int32} (hdg : decode cc pc = .ok (.iload_n k, 1)) (hi : (k : Nat) = i) (hq : lv[q]? = some (i, .int x)) (kk : jr_J p l e R s m args below meth c A D cl nL cells slots Q ws (pc + 1) lv (.int x :: rest)) : jr_J p l e R s m args below meth c A D cl nL cells slots Q ws pc lv rest :=
  fun H locs ls hP hD hS hl => lv_iload_n C.1 C.2.1 hdg hi (lv_at hl q hq) (kk H locs ls hP hD hS hl)
theorem jr_iload (C : jr_C p s m args c cc nL own Ts D cl tys A) {i q : Nat} {x : Int32} (hdg : decode cc pc = .ok (.iload i, 2)) (hq : lv[q]? = some (i, .int x)) (kk : jr_J p l e R s m args below meth c A D cl nL cells slots Q ws (pc + 2) lv (.int x :: rest)) : jr_J p l e R s m args below meth c A D cl nL cells slots Q ws pc lv rest :=
  fun H locs ls hP hD hS hl => lv_iload C.1 C.2.1 hdg (lv_at hl q hq) (kk H locs ls hP hD hS hl)
theorem jr_istore_n (C : jr_C p s m args c cc nL own Ts D cl tys A) {k : Fin 4} {i : Nat} {x : Int32} {lv' : List (Nat × Value)} (hdg : decode cc pc = .ok (.istore_n k, 1)) (hi : (k : Nat) = i) (hn : i < nL) (hv : (i, Value.int x) :: lv.filter (fun q => !(q.1 == i) && !(q.1 + 1 == i && q.2.category == 2)) = lv') (kk : jr_J p l e R s m args below meth c A D cl nL cells slots Q ws (pc + 1) lv' rest) : jr_J p l e R s m args below meth c A D cl nL cells slots Q ws pc lv (.int x :: rest) :=
  fun H locs ls hP hD hS hl => lv_istore_n C.1 C.2.1 hdg hi hl hn hv (fun ls' hl' => kk H locs ls' hP hD hS hl')
theorem jr_istore (C : jr_C p s m args c cc nL own Ts D cl tys A) {i : Nat} {x : Int32} {lv' : List (Nat × Value)} (hdg : decode cc pc = .ok (.istore i, 2)) (hn : i < nL) (hv : (i, Value.int x) :: lv.filter (fun q => !(q.1 == i) && !(q.1 + 1 == i && q.2.category == 2)) = lv') (kk : jr_J p l e R s m args below meth c A D cl nL cells slots Q ws (pc + 2) lv' rest) : jr_J p l e R s m args below meth c A D cl nL cells slots Q ws pc lv (.int x :: rest) :=
  fun H locs ls hP hD hS hl => lv_istore C.1 C.2.1 hdg hl hn hv (fun ls' hl' => kk H locs ls' hP hD hS hl')
theorem jr_lload_n (C : jr_C p s m args c cc nL own Ts D cl tys A) {k : Fin 4} {i q : Nat} {x : Int64} (hdg : decode cc pc = .ok (.lload_n k, 1)) (hi : (k : Nat) = i) (hq : lv[q]? = some (i, .long x)) (kk : jr_J p l e R s m args below meth c A D cl nL cells slots Q ws (pc + 1) lv (.long x :: rest)) : jr_J p l e R s m args below meth c A D cl nL cells slots Q ws pc lv rest :=
  fun H locs ls hP hD hS hl => lv_lload_n C.1 C.2.1 hdg hi (lv_at hl q hq) (kk H locs ls hP hD hS hl)
theorem jr_lload (C : jr_C p s m args c cc nL own Ts D cl tys A) {i q : Nat} {x : Int64} (hdg : decode cc pc = .ok (.lload i, 2)) (hq : lv[q]? = some (i, .long x)) (kk : jr_J p l e R s m args below meth c A D cl nL cells slots Q ws (pc + 2) lv (.long x :: rest)) : jr_J p l e R s m args below meth c A D cl nL cells slots Q ws pc lv rest :=
  fun H locs ls hP hD hS hl => lv_lload C.1 C.2.1 hdg (lv_at hl q hq) (kk H locs ls hP hD hS hl)
theorem jr_lstore_n (C : jr_C p s m args c cc nL own Ts D cl tys A) {k : Fin 4} {i : Nat} {x : Int64} {lv' : List (Nat × Value)} (hdg : decode cc pc = .ok (.lstore_n k, 1)) (hi : (k : Nat) = i) (hn : i + 1 < nL) (hv : (i, Value.long x) :: lv.filter (fun q => !(q.1 == i) && (!(q.1 == i + 1) && !(q.1 + 1 == i && q.2.category == 2))) = lv') (kk : jr_J p l e R s m args below meth c A D cl nL cells slots Q ws (pc + 1) lv' rest) : jr_J p l e R s m args below meth c A D cl nL cells slots Q ws pc lv (.long x :: rest) :=
  fun H locs ls hP hD hS hl => lv_lstore_n C.1 C.2.1 hdg hi hl hn hv (fun ls' hl' => kk H locs ls' hP hD hS hl')
theorem jr_lstore (C : jr_C p s m args c cc nL own Ts D cl tys A) {i : Nat} {x : Int64} {lv' : List (Nat × Value)} (hdg : decode cc pc = .ok (.lstore i, 2)) (hn : i + 1 < nL) (hv : (i, Value.long x) :: lv.filter (fun q => !(q.1 == i) && (!(q.1 == i + 1) && !(q.1 + 1 == i && q.2.category == 2))) = lv') (kk : jr_J p l e R s m args below meth c A D cl nL cells slots Q ws (pc + 2) lv' rest) : jr_J p l e R s m args below meth c A D cl nL cells slots Q ws pc lv (.long x :: rest) :=
  fun H locs ls hP hD hS hl => lv_lstore C.1 C.2.1 hdg hl hn hv (fun ls' hl' => kk H locs ls' hP hD hS hl')
theorem jr_aload_n (C : jr_C p s m args c cc nL own Ts D cl tys A) {k : Fin 4} {i q : Nat} {x : Nat} (hdg : decode cc pc = .ok (.aload_n k, 1)) (hi : (k : Nat) = i) (hq : lv[q]? = some (i, .ref x)) (kk : jr_J p l e R s m args below meth c A D cl nL cells slots Q ws (pc + 1) lv (.ref x :: rest)) : jr_J p l e R s m args below meth c A D cl nL cells slots Q ws pc lv rest :=
  fun H locs ls hP hD hS hl => lv_aload_n C.1 C.2.1 hdg hi (lv_at hl q hq) (kk H locs ls hP hD hS hl)
theorem jr_aload (C : jr_C p s m args c cc nL own Ts D cl tys A) {i q : Nat} {x : Nat} (hdg : decode cc pc = .ok (.aload i, 2)) (hq : lv[q]? = some (i, .ref x)) (kk : jr_J p l e R s m args below meth c A D cl nL cells slots Q ws (pc + 2) lv (.ref x :: rest)) : jr_J p l e R s m args below meth c A D cl nL cells slots Q ws pc lv rest :=
  fun H locs ls hP hD hS hl => lv_aload C.1 C.2.1 hdg (lv_at hl q hq) (kk H locs ls hP hD hS hl)
theorem jr_astore_n (C : jr_C p s m args c cc nL own Ts D cl tys A) {k : Fin 4} {i : Nat} {x : Nat} {lv' : List (Nat × Value)} (hdg : decode cc pc = .ok (.astore_n k, 1)) (hi : (k : Nat) = i) (hn : i < nL) (hv : (i, Value.ref x) :: lv.filter (fun q => !(q.1 == i) && !(q.1 + 1 == i && q.2.category == 2)) = lv') (kk : jr_J p l e R s m args below meth c A D cl nL cells slots Q ws (pc + 1) lv' rest) : jr_J p l e R s m args below meth c A D cl nL cells slots Q ws pc lv (.ref x :: rest) :=
  fun H locs ls hP hD hS hl => lv_astore_n C.1 C.2.1 hdg hi hl hn hv (fun ls' hl' => kk H locs ls' hP hD hS hl')
theorem jr_astore (C : jr_C p s m args c cc nL own Ts D cl tys A) {i : Nat} {x : Nat} {lv' : List (Nat × Value)} (hdg : decode cc pc = .ok (.astore i, 2)) (hn : i < nL) (hv : (i, Value.ref x) :: lv.filter (fun q => !(q.1 == i) && !(q.1 + 1 == i && q.2.category == 2)) = lv') (kk : jr_J p l e R s m args below meth c A D cl nL cells slots Q ws (pc + 2) lv' rest) : jr_J p l e R s m args below meth c A D cl nL cells slots Q ws pc lv (.ref x :: rest) :=
  fun H locs ls hP hD hS hl => lv_astore C.1 C.2.1 hdg hl hn hv (fun ls' hl' => kk H locs ls' hP hD hS hl')
theorem jr_iinc (C : jr_C p s m args c cc nL own Ts D cl tys A) {i q : Nat} {n : Int} {x v : Int32} {lv' : List (Nat × Value)} (hdg : decode cc pc = .ok (.iinc i n, 3)) (hq : lv[q]? = some (i, .int x)) (hx : x + Int32.ofInt n = v) (hn : i < nL) (hv : (i, Value.int v) :: lv.filter (fun q => !(q.1 == i) && !(q.1 + 1 == i && q.2.category == 2)) = lv') (kk : jr_J p l e R s m args below meth c A D cl nL cells slots Q ws (pc + 3) lv' rest) : jr_J p l e R s m args below meth c A D cl nL cells slots Q ws pc lv rest :=
  fun H locs ls hP hD hS hl => lv_iinc C.1 C.2.1 hdg hl hq hx hn hv (fun ls' hl' => kk H locs ls' hP hD hS hl')
theorem jr_iadd (C : jr_C p s m args c cc nL own Ts D cl tys A) {x y : Int32} (hdg : decode cc pc = .ok (.iadd, 1))  (kk : jr_J p l e R s m args below meth c A D cl nL cells slots Q ws (pc + 1) lv (.int (x + y) :: rest)) : jr_J p l e R s m args below meth c A D cl nL cells slots Q ws pc lv (.int y :: .int x :: rest) :=
  fun H locs ls hP hD hS hl => lv_iadd C.1 C.2.1 hdg  (kk H locs ls hP hD hS hl)
theorem jr_isub (C : jr_C p s m args c cc nL own Ts D cl tys A) {x y : Int32} (hdg : decode cc pc = .ok (.isub, 1))  (kk : jr_J p l e R s m args below meth c A D cl nL cells slots Q ws (pc + 1) lv (.int (x - y) :: rest)) : jr_J p l e R s m args below meth c A D cl nL cells slots Q ws pc lv (.int y :: .int x :: rest) :=
  fun H locs ls hP hD hS hl => lv_isub C.1 C.2.1 hdg  (kk H locs ls hP hD hS hl)
theorem jr_imul (C : jr_C p s m args c cc nL own Ts D cl tys A) {x y : Int32} (hdg : decode cc pc = .ok (.imul, 1))  (kk : jr_J p l e R s m args below meth c A D cl nL cells slots Q ws (pc + 1) lv (.int (x * y) :: rest)) : jr_J p l e R s m args below meth c A D cl nL cells slots Q ws pc lv (.int y :: .int x :: rest) :=
  fun H locs ls hP hD hS hl => lv_imul C.1 C.2.1 hdg  (kk H locs ls hP hD hS hl)
theorem jr_iand (C : jr_C p s m args c cc nL own Ts D cl tys A) {x y : Int32} (hdg : decode cc pc = .ok (.iand, 1))  (kk : jr_J p l e R s m args below meth c A D cl nL cells slots Q ws (pc + 1) lv (.int (x &&& y) :: rest)) : jr_J p l e R s m args below meth c A D cl nL cells slots Q ws pc lv (.int y :: .int x :: rest) :=
  fun H locs ls hP hD hS hl => lv_iand C.1 C.2.1 hdg  (kk H locs ls hP hD hS hl)
theorem jr_ior (C : jr_C p s m args c cc nL own Ts D cl tys A) {x y : Int32} (hdg : decode cc pc = .ok (.ior, 1))  (kk : jr_J p l e R s m args below meth c A D cl nL cells slots Q ws (pc + 1) lv (.int (x ||| y) :: rest)) : jr_J p l e R s m args below meth c A D cl nL cells slots Q ws pc lv (.int y :: .int x :: rest) :=
  fun H locs ls hP hD hS hl => lv_ior C.1 C.2.1 hdg  (kk H locs ls hP hD hS hl)
theorem jr_ixor (C : jr_C p s m args c cc nL own Ts D cl tys A) {x y : Int32} (hdg : decode cc pc = .ok (.ixor, 1))  (kk : jr_J p l e R s m args below meth c A D cl nL cells slots Q ws (pc + 1) lv (.int (x ^^^ y) :: rest)) : jr_J p l e R s m args below meth c A D cl nL cells slots Q ws pc lv (.int y :: .int x :: rest) :=
  fun H locs ls hP hD hS hl => lv_ixor C.1 C.2.1 hdg  (kk H locs ls hP hD hS hl)
theorem jr_ishl (C : jr_C p s m args c cc nL own Ts D cl tys A) {x y : Int32} (hdg : decode cc pc = .ok (.ishl, 1))  (kk : jr_J p l e R s m args below meth c A D cl nL cells slots Q ws (pc + 1) lv (.int (x <<< (y &&& 31)) :: rest)) : jr_J p l e R s m args below meth c A D cl nL cells slots Q ws pc lv (.int y :: .int x :: rest) :=
  fun H locs ls hP hD hS hl => lv_ishl C.1 C.2.1 hdg  (kk H locs ls hP hD hS hl)
theorem jr_ishr (C : jr_C p s m args c cc nL own Ts D cl tys A) {x y : Int32} (hdg : decode cc pc = .ok (.ishr, 1))  (kk : jr_J p l e R s m args below meth c A D cl nL cells slots Q ws (pc + 1) lv (.int (x >>> (y &&& 31)) :: rest)) : jr_J p l e R s m args below meth c A D cl nL cells slots Q ws pc lv (.int y :: .int x :: rest) :=
  fun H locs ls hP hD hS hl => lv_ishr C.1 C.2.1 hdg  (kk H locs ls hP hD hS hl)
theorem jr_ladd (C : jr_C p s m args c cc nL own Ts D cl tys A) {x y : Int64} (hdg : decode cc pc = .ok (.ladd, 1))  (kk : jr_J p l e R s m args below meth c A D cl nL cells slots Q ws (pc + 1) lv (.long (x + y) :: rest)) : jr_J p l e R s m args below meth c A D cl nL cells slots Q ws pc lv (.long y :: .long x :: rest) :=
  fun H locs ls hP hD hS hl => lv_ladd C.1 C.2.1 hdg  (kk H locs ls hP hD hS hl)
theorem jr_lsub (C : jr_C p s m args c cc nL own Ts D cl tys A) {x y : Int64} (hdg : decode cc pc = .ok (.lsub, 1))  (kk : jr_J p l e R s m args below meth c A D cl nL cells slots Q ws (pc + 1) lv (.long (x - y) :: rest)) : jr_J p l e R s m args below meth c A D cl nL cells slots Q ws pc lv (.long y :: .long x :: rest) :=
  fun H locs ls hP hD hS hl => lv_lsub C.1 C.2.1 hdg  (kk H locs ls hP hD hS hl)
theorem jr_lmul (C : jr_C p s m args c cc nL own Ts D cl tys A) {x y : Int64} (hdg : decode cc pc = .ok (.lmul, 1))  (kk : jr_J p l e R s m args below meth c A D cl nL cells slots Q ws (pc + 1) lv (.long (x * y) :: rest)) : jr_J p l e R s m args below meth c A D cl nL cells slots Q ws pc lv (.long y :: .long x :: rest) :=
  fun H locs ls hP hD hS hl => lv_lmul C.1 C.2.1 hdg  (kk H locs ls hP hD hS hl)
theorem jr_idiv (C : jr_C p s m args c cc nL own Ts D cl tys A) {x y : Int32} (hdg : decode cc pc = .ok (.idiv, 1)) (hne : ¬ y = 0) (kk : jr_J p l e R s m args below meth c A D cl nL cells slots Q ws (pc + 1) lv (.int (x / y) :: rest)) : jr_J p l e R s m args below meth c A D cl nL cells slots Q ws pc lv (.int y :: .int x :: rest) :=
  fun H locs ls hP hD hS hl => lv_idiv C.1 C.2.1 hdg hne (kk H locs ls hP hD hS hl)
theorem jr_irem (C : jr_C p s m args c cc nL own Ts D cl tys A) {x y : Int32} (hdg : decode cc pc = .ok (.irem, 1)) (hne : ¬ y = 0) (kk : jr_J p l e R s m args below meth c A D cl nL cells slots Q ws (pc + 1) lv (.int (x - x / y * y) :: rest)) : jr_J p l e R s m args below meth c A D cl nL cells slots Q ws pc lv (.int y :: .int x :: rest) :=
  fun H locs ls hP hD hS hl => lv_irem C.1 C.2.1 hdg hne (kk H locs ls hP hD hS hl)
theorem jr_ldiv (C : jr_C p s m args c cc nL own Ts D cl tys A) {x y : Int64} (hdg : decode cc pc = .ok (.ldiv, 1)) (hne : ¬ y = 0) (kk : jr_J p l e R s m args below meth c A D cl nL cells slots Q ws (pc + 1) lv (.long (x / y) :: rest)) : jr_J p l e R s m args below meth c A D cl nL cells slots Q ws pc lv (.long y :: .long x :: rest) :=
  fun H locs ls hP hD hS hl => lv_ldiv C.1 C.2.1 hdg hne (kk H locs ls hP hD hS hl)
theorem jr_lrem (C : jr_C p s m args c cc nL own Ts D cl tys A) {x y : Int64} (hdg : decode cc pc = .ok (.lrem, 1)) (hne : ¬ y = 0) (kk : jr_J p l e R s m args below meth c A D cl nL cells slots Q ws (pc + 1) lv (.long (x - x / y * y) :: rest)) : jr_J p l e R s m args below meth c A D cl nL cells slots Q ws pc lv (.long y :: .long x :: rest) :=
  fun H locs ls hP hD hS hl => lv_lrem C.1 C.2.1 hdg hne (kk H locs ls hP hD hS hl)
theorem jr_ineg (C : jr_C p s m args c cc nL own Ts D cl tys A) {x : Int32} (hdg : decode cc pc = .ok (.ineg, 1))  (kk : jr_J p l e R s m args below meth c A D cl nL cells slots Q ws (pc + 1) lv (.int (-x) :: rest)) : jr_J p l e R s m args below meth c A D cl nL cells slots Q ws pc lv (.int x :: rest) :=
  fun H locs ls hP hD hS hl => lv_ineg C.1 C.2.1 hdg  (kk H locs ls hP hD hS hl)
theorem jr_lneg (C : jr_C p s m args c cc nL own Ts D cl tys A) {x : Int64} (hdg : decode cc pc = .ok (.lneg, 1))  (kk : jr_J p l e R s m args below meth c A D cl nL cells slots Q ws (pc + 1) lv (.long (-x) :: rest)) : jr_J p l e R s m args below meth c A D cl nL cells slots Q ws pc lv (.long x :: rest) :=
  fun H locs ls hP hD hS hl => lv_lneg C.1 C.2.1 hdg  (kk H locs ls hP hD hS hl)
theorem jr_lcmp (C : jr_C p s m args c cc nL own Ts D cl tys A) {x y : Int64} (hdg : decode cc pc = .ok (.lcmp, 1))  (kk : jr_J p l e R s m args below meth c A D cl nL cells slots Q ws (pc + 1) lv (.int (lg_cmp x y) :: rest)) : jr_J p l e R s m args below meth c A D cl nL cells slots Q ws pc lv (.long y :: .long x :: rest) :=
  fun H locs ls hP hD hS hl => W.lcmp C.1 C.2.1 hdg  (kk H locs ls hP hD hS hl)
theorem jr_i2l (C : jr_C p s m args c cc nL own Ts D cl tys A) {x : Int32} (hdg : decode cc pc = .ok (.i2l, 1))  (kk : jr_J p l e R s m args below meth c A D cl nL cells slots Q ws (pc + 1) lv (.long x.toInt64 :: rest)) : jr_J p l e R s m args below meth c A D cl nL cells slots Q ws pc lv (.int x :: rest) :=
  fun H locs ls hP hD hS hl => lv_i2l C.1 C.2.1 hdg rfl (kk H locs ls hP hD hS hl)
theorem jr_l2i (C : jr_C p s m args c cc nL own Ts D cl tys A) {x : Int64} (hdg : decode cc pc = .ok (.l2i, 1))  (kk : jr_J p l e R s m args below meth c A D cl nL cells slots Q ws (pc + 1) lv (.int x.toInt32 :: rest)) : jr_J p l e R s m args below meth c A D cl nL cells slots Q ws pc lv (.long x :: rest) :=
  fun H locs ls hP hD hS hl => lv_l2i C.1 C.2.1 hdg rfl (kk H locs ls hP hD hS hl)
theorem jr_dup (C : jr_C p s m args c cc nL own Ts D cl tys A) {va : Value} (hdg : decode cc pc = .ok (.dup, 1)) (hva : va.category = 1) (kk : jr_J p l e R s m args below meth c A D cl nL cells slots Q ws (pc + 1) lv (va :: va :: rest)) : jr_J p l e R s m args below meth c A D cl nL cells slots Q ws pc lv (va :: rest) :=
  fun H locs ls hP hD hS hl => lv_dup C.1 C.2.1 hdg hva (kk H locs ls hP hD hS hl)
theorem jr_pop (C : jr_C p s m args c cc nL own Ts D cl tys A) {va : Value} (hdg : decode cc pc = .ok (.pop, 1)) (hva : va.category = 1) (kk : jr_J p l e R s m args below meth c A D cl nL cells slots Q ws (pc + 1) lv rest) : jr_J p l e R s m args below meth c A D cl nL cells slots Q ws pc lv (va :: rest) :=
  fun H locs ls hP hD hS hl => lv_pop C.1 C.2.1 hdg hva (kk H locs ls hP hD hS hl)
theorem jr_dup_x1 (C : jr_C p s m args c cc nL own Ts D cl tys A) {va vb : Value} (hdg : decode cc pc = .ok (.dup_x1, 1)) (hva : va.category = 1) (hvb : vb.category = 1) (kk : jr_J p l e R s m args below meth c A D cl nL cells slots Q ws (pc + 1) lv (va :: vb :: va :: rest)) : jr_J p l e R s m args below meth c A D cl nL cells slots Q ws pc lv (va :: vb :: rest) :=
  fun H locs ls hP hD hS hl => lv_dup_x1 C.1 C.2.1 hdg hva hvb (kk H locs ls hP hD hS hl)
theorem jr_dup_x2 (C : jr_C p s m args c cc nL own Ts D cl tys A) {va vb vd : Value} (hdg : decode cc pc = .ok (.dup_x2, 1)) (hva : va.category = 1) (hvb : vb.category = 1) (hvd : vd.category = 1) (kk : jr_J p l e R s m args below meth c A D cl nL cells slots Q ws (pc + 1) lv (va :: vb :: vd :: va :: rest)) : jr_J p l e R s m args below meth c A D cl nL cells slots Q ws pc lv (va :: vb :: vd :: rest) :=
  fun H locs ls hP hD hS hl => lv_dup_x2 C.1 C.2.1 hdg hva hvb hvd (kk H locs ls hP hD hS hl)
theorem jr_dup2_11 (C : jr_C p s m args c cc nL own Ts D cl tys A) {va vb : Value} (hdg : decode cc pc = .ok (.dup2, 1)) (hva : va.category = 1) (hvb : vb.category = 1) (kk : jr_J p l e R s m args below meth c A D cl nL cells slots Q ws (pc + 1) lv (va :: vb :: va :: vb :: rest)) : jr_J p l e R s m args below meth c A D cl nL cells slots Q ws pc lv (va :: vb :: rest) :=
  fun H locs ls hP hD hS hl => lv_dup2_11 C.1 C.2.1 hdg hva hvb (kk H locs ls hP hD hS hl)
theorem jr_dup2_2 (C : jr_C p s m args c cc nL own Ts D cl tys A) {va : Value} (hdg : decode cc pc = .ok (.dup2, 1)) (hva : va.category = 2) (kk : jr_J p l e R s m args below meth c A D cl nL cells slots Q ws (pc + 1) lv (va :: va :: rest)) : jr_J p l e R s m args below meth c A D cl nL cells slots Q ws pc lv (va :: rest) :=
  fun H locs ls hP hD hS hl => lv_dup2_2 C.1 C.2.1 hdg hva (kk H locs ls hP hD hS hl)
theorem jr_if_eq (C : jr_C p s m args c cc nL own Ts D cl tys A) {x : Int32} {off : Int} {tgt : Nat} (hdg : decode cc pc = .ok (.ifCond .eq off, 3)) (ht : (pc : Int) + off = (tgt : Int)) (kt : x = 0 → jr_J p l e R s m args below meth c A D cl nL cells slots Q ws tgt lv rest) (kf : ¬ x = 0 → jr_J p l e R s m args below meth c A D cl nL cells slots Q ws (pc + 3) lv rest) : jr_J p l e R s m args below meth c A D cl nL cells slots Q ws pc lv (.int x :: rest) :=
  fun H locs ls hP hD hS hl => lv_if_eq C.1 C.2.1 hdg ht (fun z => kt z H locs ls hP hD hS hl) (fun z => kf z H locs ls hP hD hS hl)
theorem jr_icmp_eq (C : jr_C p s m args c cc nL own Ts D cl tys A) {x y : Int32} {off : Int} {tgt : Nat} (hdg : decode cc pc = .ok (.if_icmp .eq off, 3)) (ht : (pc : Int) + off = (tgt : Int)) (kt : x = y → jr_J p l e R s m args below meth c A D cl nL cells slots Q ws tgt lv rest) (kf : ¬ x = y → jr_J p l e R s m args below meth c A D cl nL cells slots Q ws (pc + 3) lv rest) : jr_J p l e R s m args below meth c A D cl nL cells slots Q ws pc lv (.int y :: .int x :: rest) :=
  fun H locs ls hP hD hS hl => lv_icmp_eq C.1 C.2.1 hdg ht (fun z => kt z H locs ls hP hD hS hl) (fun z => kf z H locs ls hP hD hS hl)
theorem jr_if_ne (C : jr_C p s m args c cc nL own Ts D cl tys A) {x : Int32} {off : Int} {tgt : Nat} (hdg : decode cc pc = .ok (.ifCond .ne off, 3)) (ht : (pc : Int) + off = (tgt : Int)) (kt : ¬ x = 0 → jr_J p l e R s m args below meth c A D cl nL cells slots Q ws tgt lv rest) (kf : x = 0 → jr_J p l e R s m args below meth c A D cl nL cells slots Q ws (pc + 3) lv rest) : jr_J p l e R s m args below meth c A D cl nL cells slots Q ws pc lv (.int x :: rest) :=
  fun H locs ls hP hD hS hl => lv_if_ne C.1 C.2.1 hdg ht (fun z => kt z H locs ls hP hD hS hl) (fun z => kf z H locs ls hP hD hS hl)
theorem jr_icmp_ne (C : jr_C p s m args c cc nL own Ts D cl tys A) {x y : Int32} {off : Int} {tgt : Nat} (hdg : decode cc pc = .ok (.if_icmp .ne off, 3)) (ht : (pc : Int) + off = (tgt : Int)) (kt : ¬ x = y → jr_J p l e R s m args below meth c A D cl nL cells slots Q ws tgt lv rest) (kf : x = y → jr_J p l e R s m args below meth c A D cl nL cells slots Q ws (pc + 3) lv rest) : jr_J p l e R s m args below meth c A D cl nL cells slots Q ws pc lv (.int y :: .int x :: rest) :=
  fun H locs ls hP hD hS hl => lv_icmp_ne C.1 C.2.1 hdg ht (fun z => kt z H locs ls hP hD hS hl) (fun z => kf z H locs ls hP hD hS hl)
theorem jr_if_lt (C : jr_C p s m args c cc nL own Ts D cl tys A) {x : Int32} {off : Int} {tgt : Nat} (hdg : decode cc pc = .ok (.ifCond .lt off, 3)) (ht : (pc : Int) + off = (tgt : Int)) (kt : x < 0 → jr_J p l e R s m args below meth c A D cl nL cells slots Q ws tgt lv rest) (kf : ¬ x < 0 → jr_J p l e R s m args below meth c A D cl nL cells slots Q ws (pc + 3) lv rest) : jr_J p l e R s m args below meth c A D cl nL cells slots Q ws pc lv (.int x :: rest) :=
  fun H locs ls hP hD hS hl => lv_if_lt C.1 C.2.1 hdg ht (fun z => kt z H locs ls hP hD hS hl) (fun z => kf z H locs ls hP hD hS hl)
theorem jr_icmp_lt (C : jr_C p s m args c cc nL own Ts D cl tys A) {x y : Int32} {off : Int} {tgt : Nat} (hdg : decode cc pc = .ok (.if_icmp .lt off, 3)) (ht : (pc : Int) + off = (tgt : Int)) (kt : x < y → jr_J p l e R s m args below meth c A D cl nL cells slots Q ws tgt lv rest) (kf : ¬ x < y → jr_J p l e R s m args below meth c A D cl nL cells slots Q ws (pc + 3) lv rest) : jr_J p l e R s m args below meth c A D cl nL cells slots Q ws pc lv (.int y :: .int x :: rest) :=
  fun H locs ls hP hD hS hl => lv_icmp_lt C.1 C.2.1 hdg ht (fun z => kt z H locs ls hP hD hS hl) (fun z => kf z H locs ls hP hD hS hl)
theorem jr_if_ge (C : jr_C p s m args c cc nL own Ts D cl tys A) {x : Int32} {off : Int} {tgt : Nat} (hdg : decode cc pc = .ok (.ifCond .ge off, 3)) (ht : (pc : Int) + off = (tgt : Int)) (kt : 0 ≤ x → jr_J p l e R s m args below meth c A D cl nL cells slots Q ws tgt lv rest) (kf : ¬ 0 ≤ x → jr_J p l e R s m args below meth c A D cl nL cells slots Q ws (pc + 3) lv rest) : jr_J p l e R s m args below meth c A D cl nL cells slots Q ws pc lv (.int x :: rest) :=
  fun H locs ls hP hD hS hl => lv_if_ge C.1 C.2.1 hdg ht (fun z => kt z H locs ls hP hD hS hl) (fun z => kf z H locs ls hP hD hS hl)
theorem jr_icmp_ge (C : jr_C p s m args c cc nL own Ts D cl tys A) {x y : Int32} {off : Int} {tgt : Nat} (hdg : decode cc pc = .ok (.if_icmp .ge off, 3)) (ht : (pc : Int) + off = (tgt : Int)) (kt : y ≤ x → jr_J p l e R s m args below meth c A D cl nL cells slots Q ws tgt lv rest) (kf : ¬ y ≤ x → jr_J p l e R s m args below meth c A D cl nL cells slots Q ws (pc + 3) lv rest) : jr_J p l e R s m args below meth c A D cl nL cells slots Q ws pc lv (.int y :: .int x :: rest) :=
  fun H locs ls hP hD hS hl => lv_icmp_ge C.1 C.2.1 hdg ht (fun z => kt z H locs ls hP hD hS hl) (fun z => kf z H locs ls hP hD hS hl)
theorem jr_if_gt (C : jr_C p s m args c cc nL own Ts D cl tys A) {x : Int32} {off : Int} {tgt : Nat} (hdg : decode cc pc = .ok (.ifCond .gt off, 3)) (ht : (pc : Int) + off = (tgt : Int)) (kt : 0 < x → jr_J p l e R s m args below meth c A D cl nL cells slots Q ws tgt lv rest) (kf : ¬ 0 < x → jr_J p l e R s m args below meth c A D cl nL cells slots Q ws (pc + 3) lv rest) : jr_J p l e R s m args below meth c A D cl nL cells slots Q ws pc lv (.int x :: rest) :=
  fun H locs ls hP hD hS hl => lv_if_gt C.1 C.2.1 hdg ht (fun z => kt z H locs ls hP hD hS hl) (fun z => kf z H locs ls hP hD hS hl)
theorem jr_icmp_gt (C : jr_C p s m args c cc nL own Ts D cl tys A) {x y : Int32} {off : Int} {tgt : Nat} (hdg : decode cc pc = .ok (.if_icmp .gt off, 3)) (ht : (pc : Int) + off = (tgt : Int)) (kt : y < x → jr_J p l e R s m args below meth c A D cl nL cells slots Q ws tgt lv rest) (kf : ¬ y < x → jr_J p l e R s m args below meth c A D cl nL cells slots Q ws (pc + 3) lv rest) : jr_J p l e R s m args below meth c A D cl nL cells slots Q ws pc lv (.int y :: .int x :: rest) :=
  fun H locs ls hP hD hS hl => lv_icmp_gt C.1 C.2.1 hdg ht (fun z => kt z H locs ls hP hD hS hl) (fun z => kf z H locs ls hP hD hS hl)
theorem jr_if_le (C : jr_C p s m args c cc nL own Ts D cl tys A) {x : Int32} {off : Int} {tgt : Nat} (hdg : decode cc pc = .ok (.ifCond .le off, 3)) (ht : (pc : Int) + off = (tgt : Int)) (kt : x ≤ 0 → jr_J p l e R s m args below meth c A D cl nL cells slots Q ws tgt lv rest) (kf : ¬ x ≤ 0 → jr_J p l e R s m args below meth c A D cl nL cells slots Q ws (pc + 3) lv rest) : jr_J p l e R s m args below meth c A D cl nL cells slots Q ws pc lv (.int x :: rest) :=
  fun H locs ls hP hD hS hl => lv_if_le C.1 C.2.1 hdg ht (fun z => kt z H locs ls hP hD hS hl) (fun z => kf z H locs ls hP hD hS hl)
theorem jr_icmp_le (C : jr_C p s m args c cc nL own Ts D cl tys A) {x y : Int32} {off : Int} {tgt : Nat} (hdg : decode cc pc = .ok (.if_icmp .le off, 3)) (ht : (pc : Int) + off = (tgt : Int)) (kt : x ≤ y → jr_J p l e R s m args below meth c A D cl nL cells slots Q ws tgt lv rest) (kf : ¬ x ≤ y → jr_J p l e R s m args below meth c A D cl nL cells slots Q ws (pc + 3) lv rest) : jr_J p l e R s m args below meth c A D cl nL cells slots Q ws pc lv (.int y :: .int x :: rest) :=
  fun H locs ls hP hD hS hl => lv_icmp_le C.1 C.2.1 hdg ht (fun z => kt z H locs ls hP hD hS hl) (fun z => kf z H locs ls hP hD hS hl)
theorem jr_goto (C : jr_C p s m args c cc nL own Ts D cl tys A) {off : Int} {tgt : Nat} (hdg : decode cc pc = .ok (.goto off, 3)) (ht : (pc : Int) + off = (tgt : Int)) (kk : jr_J p l e R s m args below meth c A D cl nL cells slots Q ws tgt lv rest) : jr_J p l e R s m args below meth c A D cl nL cells slots Q ws pc lv rest :=
  fun H locs ls hP hD hS hl => lv_goto C.1 C.2.1 hdg ht (kk H locs ls hP hD hS hl)
theorem jr_lv {lv' : List (Nat × Value)} (ks : List Nat) (hv : lv_pick lv ks = lv') (kk : jr_J p l e R s m args below meth c A D cl nL cells slots Q ws pc lv' rest) : jr_J p l e R s m args below meth c A D cl nL cells slots Q ws pc lv rest :=
  fun H locs ls hP hD hS hl => kk H locs ls hP hD hS (lv_sub hl ks hv)
theorem jr_ws {ws' : va_W} (hw : ws = ws') (kk : jr_J p l e R s m args below meth c A D cl nL cells slots Q ws' pc lv rest) : jr_J p l e R s m args below meth c A D cl nL cells slots Q ws pc lv rest := hw ▸ kk
theorem jr_getf (C : jr_C p s m args c cc nL own Ts D cl tys A) {ref Cn : String} {T : u_T} {N ci index a k q0 : Nat} {fs : List Value} {v : Value} (hdg : decode cc pc = .ok (.getfield index, 3)) (hin : ∀ w ∈ u_ws Cn T N, w ∈ Ts) (hc : cl[ci]? = some (Cn, T, N)) (hk : k < N) (hlink : Cond.fieldLink own index ref (T k).2.1 (T k).2.2.1 ∈ Ts) (href : (T k).1 = ref) (he : ws[q0]? = some (a, .inr (ci, fs))) (hv : fs[k]? = some v) (kk : jr_J p l e R s m args below meth c A D cl nL cells slots Q ws (pc + 3) lv (v :: rest)) : jr_J p l e R s m args below meth c A D cl nL cells slots Q ws pc lv (.ref a :: rest) :=
  fun H locs ls hP hD hS hl => va_get C.1 C.2.1 C.2.2.2.2.1 hin C.2.2.2.1 C.2.2.2.2.2.1 hP q0 he hc k hk (C.2.2.2.2.1 _ hlink) (fun _ h9 => href ▸ h9) hv hdg (kk H locs ls hP hD hS hl)
theorem jr_putf (C : jr_C p s m args c cc nL own Ts D cl tys A) {ref Cn : String} {T : u_T} {N ci index a k q0 : Nat} {fs : List Value} {v : Value} {ty : FieldType} (hdg : decode cc pc = .ok (.putfield index, 3)) (hin : ∀ w ∈ u_ws Cn T N, w ∈ Ts) (ty0 : Nat → FieldType) (hty : ∀ k, k < N → parseFieldDescriptor (T k).2.2.1 = some (ty0 k)) (hnm : ∀ a, a < N → ∀ b, b < N → a ≠ b → (T a).2.1 ≠ (T b).2.1) (hc : cl[ci]? = some (Cn, T, N)) (hk : k < N) (hlink : Cond.fieldLink own index ref (T k).2.1 (T k).2.2.1 ∈ Ts) (href : (T k).1 = ref) (hfin : (T k).2.2.2 = false) (hd : parseFieldDescriptor (T k).2.2.1 = some ty) (hn : narrow ty v = v) (hfit : fits ty v = true) (he : ws[q0]? = some (a, .inr (ci, fs))) (hl9 : k < fs.length) (kk : jr_J p l e R s m args below meth c A D cl nL cells slots Q (ws.set q0 (a, .inr (ci, fs.set k v))) (pc + 3) lv rest) : jr_J p l e R s m args below meth c A D cl nL cells slots Q ws pc lv (v :: .ref a :: rest) :=
  fun H locs ls hP hD hS hl => va_put C.1 C.2.1 C.2.2.2.2.1 hin ty0 hty hnm C.2.2.2.1 C.2.2.2.2.2.1 hP hD hS q0 he hc k hk (C.2.2.2.2.1 _ hlink) (fun _ h9 => href ▸ h9) hfin hd hn hfit hl9 hdg (fun H1 locs1 hP hD hS => kk H1 locs1 ls hP hD hS hl)
theorem jr_iald (C : jr_C p s m args c cc nL own Ts D cl tys A) {a q0 t0 n : Nat} {cA : ClassId} {f : Nat → Int32} {i : Int32} (hdg : decode cc pc = .ok (.iaload, 1)) (ha : ws[q0]? = some (a, .inl (cA, n, .inl f))) (ht : tys[t0]? = some (cA, .int)) (hi : vp_in i n) (kk : jr_J p l e R s m args below meth c A D cl nL cells slots Q ws (pc + 1) lv (.int (f i.toNatClampNeg) :: rest)) : jr_J p l e R s m args below meth c A D cl nL cells slots Q ws pc lv (.int i :: .ref a :: rest) :=
  fun H locs ls hP hD hS hl => va_iald C.1 C.2.1 C.2.2.2.2.2.1 hP q0 t0 ha ht hi hdg (kk H locs ls hP hD hS hl)
theorem jr_iast (C : jr_C p s m args c cc nL own Ts D cl tys A) {a q0 t0 n : Nat} {cA : ClassId} {f : Nat → Int32} {i x : Int32} (hdg : decode cc pc = .ok (.iastore, 1)) (ha : ws[q0]? = some (a, .inl (cA, n, .inl f))) (ht : tys[t0]? = some (cA, .int)) (hi : vp_in i n) (kk : jr_J p l e R s m args below meth c A D cl nL cells slots Q (ws.set q0 (a, .inl (cA, n, .inl (upd f i.toNatClampNeg x)))) (pc + 1) lv rest) : jr_J p l e R s m args below meth c A D cl nL cells slots Q ws pc lv (.int x :: .int i :: .ref a :: rest) :=
  fun H locs ls hP hD hS hl => va_iast C.1 C.2.1 C.2.2.2.2.2.1 hP hD hS q0 t0 ha ht hi hdg (fun H1 locs1 hP hD hS => kk H1 locs1 ls hP hD hS hl)
theorem jr_last (C : jr_C p s m args c cc nL own Ts D cl tys A) {a q0 t0 n : Nat} {cA : ClassId} {f : Nat → Int64} {i : Int32} {x : Int64} (hdg : decode cc pc = .ok (.lastore, 1)) (ha : ws[q0]? = some (a, .inl (cA, n, .inr (.inl f)))) (ht : tys[t0]? = some (cA, .long)) (hi : vp_in i n) (kk : jr_J p l e R s m args below meth c A D cl nL cells slots Q (ws.set q0 (a, .inl (cA, n, .inr (.inl (vp_updL f i.toNatClampNeg x))))) (pc + 1) lv rest) : jr_J p l e R s m args below meth c A D cl nL cells slots Q ws pc lv (.long x :: .int i :: .ref a :: rest) :=
  fun H locs ls hP hD hS hl => va_last C.1 C.2.1 C.2.2.2.2.2.1 hP hD hS q0 t0 ha ht hi hdg (fun H1 locs1 hP hD hS => kk H1 locs1 ls hP hD hS hl)
theorem jr_lald (C : jr_C p s m args c cc nL own Ts D cl tys A) {a q0 t0 n : Nat} {cA : ClassId} {f : Nat → Int64} {i : Int32} (hdg : decode cc pc = .ok (.laload, 1)) (ha : ws[q0]? = some (a, .inl (cA, n, .inr (.inl f)))) (ht : tys[t0]? = some (cA, .long)) (hi : vp_in i n) (kk : jr_J p l e R s m args below meth c A D cl nL cells slots Q ws (pc + 1) lv (.long (f i.toNatClampNeg) :: rest)) : jr_J p l e R s m args below meth c A D cl nL cells slots Q ws pc lv (.int i :: .ref a :: rest) :=
  fun H locs ls hP hD hS hl => va_lald C.1 C.2.1 C.2.2.2.2.2.1 hP q0 t0 ha ht hi hdg (kk H locs ls hP hD hS hl)
theorem jr_aldo (C : jr_C p s m args c cc nL own Ts D cl tys A) {a q0 t0 n b : Nat} {cA : ClassId} {Cn : String} {f : Nat → Option Nat} {i : Int32} (hdg : decode cc pc = .ok (.aaload, 1)) (ha : ws[q0]? = some (a, .inl (cA, n, .inr (.inr (.inr (.inr f)))))) (ht : tys[t0]? = some (cA, .object Cn)) (hi : vp_in i n) (hf : f i.toNatClampNeg = some b) (kk : jr_J p l e R s m args below meth c A D cl nL cells slots Q ws (pc + 1) lv (.ref b :: rest)) : jr_J p l e R s m args below meth c A D cl nL cells slots Q ws pc lv (.int i :: .ref a :: rest) :=
  fun H locs ls hP hD hS hl => va_aldq C.1 C.2.1 C.2.2.2.2.2.1 hP q0 t0 ha ht hi hdg (by rw [hf]; exact kk H locs ls hP hD hS hl)
theorem jr_alda (C : jr_C p s m args c cc nL own Ts D cl tys A) {a q0 t0 n b : Nat} {cA : ClassId} {t : FieldType} {f : Nat → Option Nat} {i : Int32} (hdg : decode cc pc = .ok (.aaload, 1)) (ha : ws[q0]? = some (a, .inl (cA, n, .inr (.inr (.inr (.inr f)))))) (ht : tys[t0]? = some (cA, .array t)) (hi : vp_in i n) (hf : f i.toNatClampNeg = some b) (kk : jr_J p l e R s m args below meth c A D cl nL cells slots Q ws (pc + 1) lv (.ref b :: rest)) : jr_J p l e R s m args below meth c A D cl nL cells slots Q ws pc lv (.int i :: .ref a :: rest) :=
  fun H locs ls hP hD hS hl => W.aald (v := .ref b) (ty := .array t) C.1 C.2.1 (hP q0 _ ha) ((C.2.2.2.2.2.1.2 t0 _ ht).1 n (fun j => va_rf (f j))) rfl (fun q => by cases q) (by show ¬ (i < 0 ∨ (arrV _ _ _).slots.size ≤ _); rw [arrV_size]; exact hi) (by show (arrV _ _ _).slots[_]? = _; rw [arrV_read _ _ (Nat.not_le.mp fun q => hi (Or.inr q)), hf]; rfl) rfl rfl hdg (kk H locs ls hP hD hS hl)
theorem jr_alen (C : jr_C p s m args c cc nL own Ts D cl tys A) {a q0 t0 : Nat} {cA : ClassId} {x : vp_A} {ty : FieldType} {v : Int32} (hdg : decode cc pc = .ok (.arraylength, 1)) (ha : ws[q0]? = some (a, .inl (cA, x))) (ht : tys[t0]? = some (cA, ty)) (hv : Int32.ofNat x.1 = v) (kk : jr_J p l e R s m args below meth c A D cl nL cells slots Q ws (pc + 1) lv (.int v :: rest)) : jr_J p l e R s m args below meth c A D cl nL cells slots Q ws pc lv (.ref a :: rest) :=
  fun H locs ls hP hD hS hl => va_alen C.1 C.2.1 C.2.2.2.2.2.1 hP q0 t0 ha ht hv hdg (kk H locs ls hP hD hS hl)
end JR
/-- the start of a method: the heap's size, the world -/
def jr_Pre (D : va_G) (cl : List vw_C) (tys : List (ClassId × FieldType)) (ws : va_W) (sz : Nat) (U : State) : Prop := U.heap.size = sz ∧ va_P D cl ws U.heap ∧ va_K D cl tys U ∧ va_D (fun _ => True) ws ∧ jN U
/-- its end -/
def jr_B {S : Type} (D : va_G) (cl : List vw_C) (tys : List (ClassId × FieldType)) (wf : S → va_W) (A : Nat → Prop) (u : S) (t : State) : Prop := va_P D cl (wf u) t.heap ∧ va_K D cl tys t ∧ va_D A (wf u)
/-- what a throw needs of the machine's own statics -/
def jr_Z (A : Nat → Prop) (U : State) (H : Heap) : Prop := vx_Zq Bundle.tN "UNASSIGNED_STACK" Bundle.steD A U H ∧ vx_Zq Bundle.tN "SUPPRESSED_SENTINEL" Bundle.listD A U H
def jr_PreX (D : va_G) (cl : List vw_C) (tys : List (ClassId × FieldType)) (ws : va_W) (ss : List (String × Nat × String × Nat)) (sz : Nat) (U : State) : Prop := jr_Pre D cl tys ws sz U ∧ jr_Z (va_A ws sz) U U.heap ∧ ∀ q ∈ ss, vk_R q.1 q.2.1 q.2.2.1 q.2.2.2 U
def jr_X {S : Type} (D : va_G) (cl : List vw_C) (tys : List (ClassId × FieldType)) (wf : S → va_W) (A : Nat → Prop) (xp : String → S → Prop) : String → State → State → Prop := vx_X (fun _ : S => True) (fun E u t => xp E u ∧ jr_B D cl tys wf A u t) A
theorem jr_blind {D : va_G} {cl : List vw_C} {tys : List (ClassId × FieldType)} {ws : va_W} {sz : Nat} {av : List Value} : FrameBlind (va_Pc av (jr_Pre D cl tys ws sz)) :=
  fun a U g mk q => by
    obtain ⟨q0, q1, qP, qK, qD, qN⟩ := q
    exact ⟨q0, q1, qP, va_K.moved (u := U) (U := U.calling g mk a) (Vm.Alike.refl U.vm) qK, qD, jN.same (u := U) rfl qN⟩
theorem jr_blindX {D : va_G} {cl : List vw_C} {tys : List (ClassId × FieldType)} {ws : va_W} {ss : List (String × Nat × String × Nat)} {sz : Nat} {av : List Value} : FrameBlind (va_Pc av (jr_PreX D cl tys ws ss sz)) :=
  fun a U g mk q => by
    obtain ⟨q0, ⟨q1, qP, qK, qD, qN⟩, ⟨z1, z2⟩, z3⟩ := q
    exact ⟨q0, ⟨q1, qP, va_K.moved (u := U) (U := U.calling g mk a) (Vm.Alike.refl U.vm) qK, qD, jN.same (u := U) rfl qN⟩, ⟨vx_Zq.moved (u := U) (U := U.calling g mk a) (Vm.Alike.refl U.vm) z1, vx_Zq.moved (u := U) (U := U.calling g mk a) (Vm.Alike.refl U.vm) z2⟩, fun x hx => vk_R.same (u := U) rfl (z3 x hx)⟩
theorem jr_free {A : Nat → Prop} {ws : va_W} {H0 H : Heap} {locs : List Loc} (hD : va_D A ws) (hS : va_S A H0 H locs) (hA : ∀ q, H0.size ≤ q → A q) : ∀ q, va_A ws H.size q → A q := by
  intro q hq
  rcases hq with ⟨k, e, hk⟩ | h
  · exact hD.2 k (q, e) hk
  · exact hA q (Nat.le_trans hS.1 h)
theorem jr_Z.at {A B : Nat → Prop} {s U : State} {H : Heap} {locs : List Loc} (h : jr_Z A s s.heap) (hS : va_S A s.heap H locs) (hAB : ∀ q, B q → A q) (hU : U.heap = H) (hvm : s.vm.Alike U.vm) : jr_Z B U U.heap := by
  rw [hU]
  exact ⟨vx_Zq.moved hvm ((h.1.kept hS.2.1).narrow hAB), vx_Zq.moved hvm ((h.2.kept hS.2.1).narrow hAB)⟩
/-- the contract of a method that returns (i): from the world ws, whatever lies around it -/
def jr_Mi {S : Type} (l : Launch) (y : MethodName) (wy : List Cond) (rm : Room) (av : List Value) (D : va_G) (cl : List vw_C) (tys : List (ClassId × FieldType)) (ws : va_W) (wf : S → va_W) (post : Int32 → S → Prop) : Prop :=
  ∀ sz : Nat, Met l y wy rm (va_Pc av (jr_Pre D cl tys ws sz)) (va_Qi post (jr_B D cl tys wf (va_A ws sz)) (va_A ws sz)) 0 0 (va_A ws sz)
/-- .. or throws -/
def jr_Ti {S : Type} (l : Launch) (y : MethodName) (wy : List Cond) (rm : Room) (av : List Value) (D : va_G) (cl : List vw_C) (tys : List (ClassId × FieldType)) (ws : va_W) (ss : List (String × Nat × String × Nat)) (wf : S → va_W) (post : Int32 → S → Prop) (xp : String → S → Prop) (mc ms : Nat) : Prop :=
  ∀ sz : Nat, vx_Met l y wy rm (va_Pc av (jr_PreX D cl tys ws ss sz)) (va_Qi post (jr_B D cl tys wf (va_A ws sz)) (va_A ws sz)) (jr_X D cl tys wf (va_A ws sz) xp) mc ms (va_A ws sz)
/-- the contract of a method that returns (l): from the world ws, whatever lies around it -/
def jr_Ml {S : Type} (l : Launch) (y : MethodName) (wy : List Cond) (rm : Room) (av : List Value) (D : va_G) (cl : List vw_C) (tys : List (ClassId × FieldType)) (ws : va_W) (wf : S → va_W) (post : Int64 → S → Prop) : Prop :=
  ∀ sz : Nat, Met l y wy rm (va_Pc av (jr_Pre D cl tys ws sz)) (va_Ql post (jr_B D cl tys wf (va_A ws sz)) (va_A ws sz)) 0 0 (va_A ws sz)
/-- .. or throws -/
def jr_Tl {S : Type} (l : Launch) (y : MethodName) (wy : List Cond) (rm : Room) (av : List Value) (D : va_G) (cl : List vw_C) (tys : List (ClassId × FieldType)) (ws : va_W) (ss : List (String × Nat × String × Nat)) (wf : S → va_W) (post : Int64 → S → Prop) (xp : String → S → Prop) (mc ms : Nat) : Prop :=
  ∀ sz : Nat, vx_Met l y wy rm (va_Pc av (jr_PreX D cl tys ws ss sz)) (va_Ql post (jr_B D cl tys wf (va_A ws sz)) (va_A ws sz)) (jr_X D cl tys wf (va_A ws sz) xp) mc ms (va_A ws sz)
/-- the contract of a method that returns (v): from the world ws, whatever lies around it -/
def jr_Mv {S : Type} (l : Launch) (y : MethodName) (wy : List Cond) (rm : Room) (av : List Value) (D : va_G) (cl : List vw_C) (tys : List (ClassId × FieldType)) (ws : va_W) (wf : S → va_W) (post : S → Prop) : Prop :=
  ∀ sz : Nat, Met l y wy rm (va_Pc av (jr_Pre D cl tys ws sz)) (va_Qv post (jr_B D cl tys wf (va_A ws sz)) (va_A ws sz)) 0 0 (va_A ws sz)
/-- .. or throws -/
def jr_Tv {S : Type} (l : Launch) (y : MethodName) (wy : List Cond) (rm : Room) (av : List Value) (D : va_G) (cl : List vw_C) (tys : List (ClassId × FieldType)) (ws : va_W) (ss : List (String × Nat × String × Nat)) (wf : S → va_W) (post : S → Prop) (xp : String → S → Prop) (mc ms : Nat) : Prop :=
  ∀ sz : Nat, vx_Met l y wy rm (va_Pc av (jr_PreX D cl tys ws ss sz)) (va_Qv post (jr_B D cl tys wf (va_A ws sz)) (va_A ws sz)) (jr_X D cl tys wf (va_A ws sz) xp) mc ms (va_A ws sz)
section JR2
variable {p : Program} {l : Launch} {e : Env} {R : Room} {s : State} {m : MethodId} {args : Array Value} {below : List Frame} {meth : Method} {c : Code} {A : Nat → Prop} {D : va_G} {cl : List vw_C} {nL cells slots : Nat} {Q : State → Prop} {ws : va_W} {pc : Nat} {lv : List (Nat × Value)} {rest : List Value}
variable {cc : ByteArray} {own : String} {Ts : List Cond} {tys : List (ClassId × FieldType)} {S : Type} {wf : S → va_W} {xp xp' : String → S → Prop} {ss ss' : List (String × Nat × String × Nat)} {mc ms MC MS : Nat}
theorem jr_reti (C : jr_C p s m args c cc nL own Ts D cl tys A) {post : Int32 → S → Prop} {u : S} {v : Int32} (hr : meth.sig.returnType = some .int) (hlocks : meth.locks = false) (hdg : decode cc pc = .ok (.ireturn, 1)) (hp : post v u) (hw : ws = wf u) : jr_J p l e R s m args below meth c A D cl nL cells slots (MQ below (va_Qi post (jr_B D cl tys wf A) A) args s cells slots A) ws pc lv [.int v] := by
  subst hw
  intro H locs ls hP hD hS hl
  exact W.iret C.1 C.2.1 hr (fun t ht hW => ⟨⟨v, u, rfl, hp, by rw [ht]; exact hP, va_K.moved hW.alike C.2.2.2.2.2.1, hD⟩, hS.F ht⟩) hS.2.2 hdg hlocks
theorem jr_retXi (C : jr_C p s m args c cc nL own Ts D cl tys A) {post : Int32 → S → Prop} {u : S} {v : Int32} (hr : meth.sig.returnType = some .int) (hlocks : meth.locks = false) (hdg : decode cc pc = .ok (.ireturn, 1)) (hc : cells ≤ MC) (hs : slots ≤ MS) (hp : post v u) (hw : ws = wf u) : jr_J p l e R s m args below meth c A D cl nL cells slots (vx_MQ below (va_Qi post (jr_B D cl tys wf A) A) (jr_X D cl tys wf A xp) args s MC MS A) ws pc lv [.int v] := by
  subst hw
  intro H locs ls hP hD hS hl
  refine W.widen (k := MC) (n := MS) hc hs ?_
  exact vx_ret (W.iret C.1 C.2.1 hr (fun t ht hW => ⟨⟨v, u, rfl, hp, by rw [ht]; exact hP, va_K.moved hW.alike C.2.2.2.2.2.1, hD⟩, hS.F ht⟩) hS.2.2 hdg hlocks)
theorem jr_retz (C : jr_C p s m args c cc nL own Ts D cl tys A) {post : Int32 → S → Prop} {u : S} {v : Int32} {ty : FieldType} (hr : meth.sig.returnType = some ty) (hn : narrow ty (.int v) = .int v) (hlocks : meth.locks = false) (hdg : decode cc pc = .ok (.ireturn, 1)) (hp : post v u) (hw : ws = wf u) : jr_J p l e R s m args below meth c A D cl nL cells slots (MQ below (va_Qi post (jr_B D cl tys wf A) A) args s cells slots A) ws pc lv [.int v] := by
  subst hw
  intro H locs ls hP hD hS hl
  exact W.zret C.1 C.2.1 hr hn (fun t ht hW => ⟨⟨v, u, rfl, hp, by rw [ht]; exact hP, va_K.moved hW.alike C.2.2.2.2.2.1, hD⟩, hS.F ht⟩) hS.2.2 hdg hlocks
theorem jr_retXz (C : jr_C p s m args c cc nL own Ts D cl tys A) {post : Int32 → S → Prop} {u : S} {v : Int32} {ty : FieldType} (hr : meth.sig.returnType = some ty) (hn : narrow ty (.int v) = .int v) (hlocks : meth.locks = false) (hdg : decode cc pc = .ok (.ireturn, 1)) (hc : cells ≤ MC) (hs : slots ≤ MS) (hp : post v u) (hw : ws = wf u) : jr_J p l e R s m args below meth c A D cl nL cells slots (vx_MQ below (va_Qi post (jr_B D cl tys wf A) A) (jr_X D cl tys wf A xp) args s MC MS A) ws pc lv [.int v] := by
  subst hw
  intro H locs ls hP hD hS hl
  refine W.widen (k := MC) (n := MS) hc hs ?_
  exact vx_ret (W.zret C.1 C.2.1 hr hn (fun t ht hW => ⟨⟨v, u, rfl, hp, by rw [ht]; exact hP, va_K.moved hW.alike C.2.2.2.2.2.1, hD⟩, hS.F ht⟩) hS.2.2 hdg hlocks)
theorem jr_ofi {y : MethodName} {wy wy' : List Cond} {rm : Room} {av : List Value} {post : Int32 → S → Prop} (hy : plainName y.cls = true) (hw : wy = Cond.code y cc nL (some .int) :: wy') (hav : (lg_sl av).length ≤ nL) (hlv : lv_args 0 av = lv)
    (body : ∀ (p : Program) (e : Env) (s : State) (m : MethodId) (args : Array Value) (below : List Frame) (meth : Method) (c : Code) (A : Nat → Prop), jr_C p s m args c cc nL y.cls wy D cl tys A → meth.sig.returnType = some .int → meth.locks = false → jr_J p l e (headSpec wy rm).room s m args below meth c A D cl nL 0 0 (MQ below (va_Qi post (jr_B D cl tys wf A) A) args s 0 0 A) ws 0 lv []) : jr_Mi l y wy rm av D cl tys ws wf post := by
  intro sz
  refine Met.ofW hy hw ?_
  intro p e s m args below meth c s₁ B hml hv
  obtain ⟨rfl, hsz, hP, hK, hD0, hN⟩ := hv
  subst hsz
  have hl := lv_entry av hav
  rw [hlv] at hl
  rw [lg_entry_eq]
  exact body p e s m _ below meth c (va_A ws s.heap.size) ⟨B.exec, B.bytes, hml, findClass_of_methodNamed B.named, atoms_spec (ws := wy) B.pre, hK, fun q h => Or.inr h, hN⟩ B.returns B.notSynchronized s.heap [] _ hP hD0.self va_S.rf hl
theorem jr_ofFi {y : MethodName} {wy wy' : List Cond} {rm : Room} {av : List Value} {post : Int32 → S → Prop} (hy : plainFor y = true) (hw : wy = Cond.code y cc nL (some .int) :: wy') (hav : (lg_sl av).length ≤ nL) (hlv : lv_args 0 av = lv)
    (body : ∀ (p : Program) (e : Env) (s : State) (m : MethodId) (args : Array Value) (below : List Frame) (meth : Method) (c : Code) (A : Nat → Prop), jr_C p s m args c cc nL y.cls wy D cl tys A → meth.sig.returnType = some .int → meth.locks = false → jr_J p l e (headSpec wy rm).room s m args below meth c A D cl nL 0 0 (MQ below (va_Qi post (jr_B D cl tys wf A) A) args s 0 0 A) ws 0 lv []) : jr_Mi l y wy rm av D cl tys ws wf post := by
  intro sz
  refine va_MetF hy hw ?_
  intro p e s m args below meth c s₁ B hml hv
  obtain ⟨rfl, hsz, hP, hK, hD0, hN⟩ := hv
  subst hsz
  have hl := lv_entry av hav
  rw [hlv] at hl
  rw [lg_entry_eq]
  exact body p e s m _ below meth c (va_A ws s.heap.size) ⟨B.exec, B.bytes, hml, findClass_of_methodNamed B.named, atoms_spec (ws := wy) B.pre, hK, fun q h => Or.inr h, hN⟩ B.returns B.notSynchronized s.heap [] _ hP hD0.self va_S.rf hl
theorem jr_ofXi {y : MethodName} {wy wy' : List Cond} {rm : Room} {av : List Value} {post : Int32 → S → Prop} (hy : plainName y.cls = true) (hw : wy = Cond.code y cc nL (some .int) :: wy') (hav : (lg_sl av).length ≤ nL) (hlv : lv_args 0 av = lv)
    (body : ∀ (p : Program) (e : Env) (s : State) (m : MethodId) (args : Array Value) (below : List Frame) (meth : Method) (c : Code) (A : Nat → Prop), jr_C p s m args c cc nL y.cls wy D cl tys A → meth.sig.returnType = some .int → meth.locks = false → (∀ x ∈ c.exceptionTable.toList, False) → jr_Z A s s.heap → (∀ q ∈ ss, vk_R q.1 q.2.1 q.2.2.1 q.2.2.2 s) → jr_J p l e (headSpec wy rm).room s m args below meth c A D cl nL 0 0 (vx_MQ below (va_Qi post (jr_B D cl tys wf A) A) (jr_X D cl tys wf A xp) args s mc ms A) ws 0 lv []) : jr_Ti l y wy rm av D cl tys ws ss wf post xp mc ms := by
  intro sz
  refine vx_ofW hy hw ?_
  intro p e s m args below meth c s₁ B hml hnt hv
  obtain ⟨rfl, ⟨hsz, hP, hK, hD0, hN⟩, hZ, hs9⟩ := hv
  subst hsz
  have hl := lv_entry av hav
  rw [hlv] at hl
  rw [lg_entry_eq]
  exact body p e s m _ below meth c (va_A ws s.heap.size) ⟨B.exec, B.bytes, hml, findClass_of_methodNamed B.named, atoms_spec (ws := wy) B.pre, hK, fun q h => Or.inr h, hN⟩ B.returns B.notSynchronized hnt hZ hs9 s.heap [] _ hP hD0.self va_S.rf hl
theorem jr_ofz {y : MethodName} {wy wy' : List Cond} {rm : Room} {av : List Value} {post : Int32 → S → Prop} (hy : plainName y.cls = true) (hw : wy = Cond.code y cc nL (some .boolean) :: wy') (hav : (lg_sl av).length ≤ nL) (hlv : lv_args 0 av = lv)
    (body : ∀ (p : Program) (e : Env) (s : State) (m : MethodId) (args : Array Value) (below : List Frame) (meth : Method) (c : Code) (A : Nat → Prop), jr_C p s m args c cc nL y.cls wy D cl tys A → meth.sig.returnType = some .boolean → meth.locks = false → jr_J p l e (headSpec wy rm).room s m args below meth c A D cl nL 0 0 (MQ below (va_Qi post (jr_B D cl tys wf A) A) args s 0 0 A) ws 0 lv []) : jr_Mi l y wy rm av D cl tys ws wf post := by
  intro sz
  refine Met.ofW hy hw ?_
  intro p e s m args below meth c s₁ B hml hv
  obtain ⟨rfl, hsz, hP, hK, hD0, hN⟩ := hv
  subst hsz
  have hl := lv_entry av hav
  rw [hlv] at hl
  rw [lg_entry_eq]
  exact body p e s m _ below meth c (va_A ws s.heap.size) ⟨B.exec, B.bytes, hml, findClass_of_methodNamed B.named, atoms_spec (ws := wy) B.pre, hK, fun q h => Or.inr h, hN⟩ B.returns B.notSynchronized s.heap [] _ hP hD0.self va_S.rf hl
theorem jr_ofFz {y : MethodName} {wy wy' : List Cond} {rm : Room} {av : List Value} {post : Int32 → S → Prop} (hy : plainFor y = true) (hw : wy = Cond.code y cc nL (some .boolean) :: wy') (hav : (lg_sl av).length ≤ nL) (hlv : lv_args 0 av = lv)
    (body : ∀ (p : Program) (e : Env) (s : State) (m : MethodId) (args : Array Value) (below : List Frame) (meth : Method) (c : Code) (A : Nat → Prop), jr_C p s m args c cc nL y.cls wy D cl tys A → meth.sig.returnType = some .boolean → meth.locks = false → jr_J p l e (headSpec wy rm).room s m args below meth c A D cl nL 0 0 (MQ below (va_Qi post (jr_B D cl tys wf A) A) args s 0 0 A) ws 0 lv []) : jr_Mi l y wy rm av D cl tys ws wf post := by
  intro sz
  refine va_MetF hy hw ?_
  intro p e s m args below meth c s₁ B hml hv
  obtain ⟨rfl, hsz, hP, hK, hD0, hN⟩ := hv
  subst hsz
  have hl := lv_entry av hav
  rw [hlv] at hl
  rw [lg_entry_eq]
  exact body p e s m _ below meth c (va_A ws s.heap.size) ⟨B.exec, B.bytes, hml, findClass_of_methodNamed B.named, atoms_spec (ws := wy) B.pre, hK, fun q h => Or.inr h, hN⟩ B.returns B.notSynchronized s.heap [] _ hP hD0.self va_S.rf hl
theorem jr_ofXz {y : MethodName} {wy wy' : List Cond} {rm : Room} {av : List Value} {post : Int32 → S → Prop} (hy : plainName y.cls = true) (hw : wy = Cond.code y cc nL (some .boolean) :: wy') (hav : (lg_sl av).length ≤ nL) (hlv : lv_args 0 av = lv)
    (body : ∀ (p : Program) (e : Env) (s : State) (m : MethodId) (args : Array Value) (below : List Frame) (meth : Method) (c : Code) (A : Nat → Prop), jr_C p s m args c cc nL y.cls wy D cl tys A → meth.sig.returnType = some .boolean → meth.locks = false → (∀ x ∈ c.exceptionTable.toList, False) → jr_Z A s s.heap → (∀ q ∈ ss, vk_R q.1 q.2.1 q.2.2.1 q.2.2.2 s) → jr_J p l e (headSpec wy rm).room s m args below meth c A D cl nL 0 0 (vx_MQ below (va_Qi post (jr_B D cl tys wf A) A) (jr_X D cl tys wf A xp) args s mc ms A) ws 0 lv []) : jr_Ti l y wy rm av D cl tys ws ss wf post xp mc ms := by
  intro sz
  refine vx_ofW hy hw ?_
  intro p e s m args below meth c s₁ B hml hnt hv
  obtain ⟨rfl, ⟨hsz, hP, hK, hD0, hN⟩, hZ, hs9⟩ := hv
  subst hsz
  have hl := lv_entry av hav
  rw [hlv] at hl
  rw [lg_entry_eq]
  exact body p e s m _ below meth c (va_A ws s.heap.size) ⟨B.exec, B.bytes, hml, findClass_of_methodNamed B.named, atoms_spec (ws := wy) B.pre, hK, fun q h => Or.inr h, hN⟩ B.returns B.notSynchronized hnt hZ hs9 s.heap [] _ hP hD0.self va_S.rf hl
theorem jr_callVi (C : jr_C p s m args c cc nL own Ts D cl tys A) {post : Int32 → S → Prop} {y : MethodName} {wy : List Cond} {rm : Room} {bytes : ByteArray} {maxL index n : Nat} {ret : Option FieldType} {As st0 : List Value} {Cn : String} {T : u_T} {N ci q0 b : Nat} {fs : List Value} (hM : jr_Mi l y wy rm (.ref b :: As) D cl tys ws wf post) (cw : CallW R s args own Cn index y bytes maxL ret wy rm 0 0 n) (hdg : decode cc pc = .ok (.invokevirtual index, 3)) (hc9 : cl[ci]? = some (Cn, T, N)) (he : ws[q0]? = some (b, .inr (ci, fs))) (hn : As.length = n) (hst : st0 = As.reverse ++ .ref b :: rest) (hro : (rest.map fun v => v.category).sum ≤ 8) (hcl : cells ≤ R.cells ∧ slots ≤ R.slots) (kk : ∀ (r : Int32) (u : S), post r u → jr_J p l e R s m args below meth c A D cl nL cells slots Q (wf u) (pc + 3) lv (.int r :: rest)) : jr_J p l e R s m args below meth c A D cl nL cells slots Q ws pc lv st0 := by
  intro H locs ls hP hD hS hl
  subst hst
  have hF : ∀ q, va_A ws H.size q → A q := jr_free hD hS C.2.2.2.2.2.2.1
  refine va_calli (va_runV (As := As) (rest := rest) ⟨C.1, C.2.1, C.2.2.1, C.2.2.2.1, C.2.2.2.2.1⟩ (hM H.size) cw ⟨jr_blind, va_recv C.2.2.2.2.2.1 hP hc9 he, fun U hU hW => ⟨rfl, by rw [hU], by rw [hU]; exact hP, va_K.moved hW.alike C.2.2.2.2.2.1, hD.weaken (fun _ _ _ _ => trivial), C.2.2.2.2.2.2.2.warm hW⟩⟩ rfl hn hl.1 rfl (lv_room hro) hdg hcl) hS (fun q _ h => hF q h) hF (fun r u t H1 locs1 ht hvm hw hB hz hk hS1 => ?_)
  obtain ⟨hP1, hK1, hD1⟩ := hB
  rw [ht] at hP1
  exact kk r u hw H1 locs1 ls hP1 (hD1.weaken fun _ _ _ h => hF _ h) hS1 hl
theorem jr_callXVii (C : jr_C p s m args c cc nL own Ts D cl tys A) {post : Int32 → S → Prop} {postq : Int32 → S → Prop} {y : MethodName} {wy : List Cond} {rm : Room} {bytes : ByteArray} {maxL index n : Nat} {ret : Option FieldType} {As st0 : List Value} {Cn : String} {T : u_T} {N ci q0 b : Nat} {fs : List Value} (hlocks : meth.locks = false) (hnt : ∀ x ∈ c.exceptionTable.toList, False) (hZ : jr_Z A s s.heap) (hss : ∀ q ∈ ss', vk_R q.1 q.2.1 q.2.2.1 q.2.2.2 s) (hM : jr_Ti l y wy rm (.ref b :: As) D cl tys ws ss' wf post xp' mc ms) (cw : CallW R s args own Cn index y bytes maxL ret wy rm mc ms n) (hdg : decode cc pc = .ok (.invokevirtual index, 3)) (hc9 : cl[ci]? = some (Cn, T, N)) (he : ws[q0]? = some (b, .inr (ci, fs))) (hn : As.length = n) (hst : st0 = As.reverse ++ .ref b :: rest) (hro : (rest.map fun v => v.category).sum ≤ 8) (hcl : cells + mc ≤ R.cells ∧ slots + ms ≤ R.slots) (hc : cells + mc ≤ MC) (hs : slots + ms ≤ MS) (kx : ∀ (E : String) (u : S), xp' E u → xp E u) (kk : ∀ (r : Int32) (u : S), post r u → jr_J p l e R s m args below meth c A D cl nL (cells + mc) (slots + ms) (vx_MQ below (va_Qi postq (jr_B D cl tys wf A) A) (jr_X D cl tys wf A xp) args s MC MS A) (wf u) (pc + 3) lv (.int r :: rest)) : jr_J p l e R s m args below meth c A D cl nL cells slots (vx_MQ below (va_Qi postq (jr_B D cl tys wf A) A) (jr_X D cl tys wf A xp) args s MC MS A) ws pc lv st0 := by
  intro H locs ls hP hD hS hl
  subst hst
  have hF : ∀ q, va_A ws H.size q → A q := jr_free hD hS C.2.2.2.2.2.2.1
  refine vx_calli (vx_runV (As := As) (rest := rest) ⟨C.1, C.2.1, C.2.2.1, C.2.2.2.1, C.2.2.2.2.1⟩ (hM H.size) cw ⟨jr_blindX, va_recv C.2.2.2.2.2.1 hP hc9 he, fun U hU hW => ⟨rfl, ⟨by rw [hU], by rw [hU]; exact hP, va_K.moved hW.alike C.2.2.2.2.2.1, hD.weaken (fun _ _ _ _ => trivial), C.2.2.2.2.2.2.2.warm hW⟩, hZ.at hS hF hU hW.alike, fun q hq => (hss q hq).warm hW⟩⟩ rfl hn hl.1 rfl (lv_room hro) hdg hcl) hS (fun q _ h => hF q h) hF (fun q _ h => hF q h) (fun E ce q9 u t H1 locs1 ht hvm _ hBX hz hk hS1 hce hcv hcl9 => ?_) (fun r u t H1 locs1 ht hvm hw hB hz hk hS1 => ?_)
  · obtain ⟨hxe, hP1, hK1, hD1⟩ := hBX
    rw [ht] at hP1
    exact vx_out (fun x hx => (hnt x hx).elim) hlocks hce hcv hcl9 (fun t' ht' hvm' => ⟨u, trivial, ⟨kx E u hxe, by rw [ht']; exact hP1, va_K.moved hvm' C.2.2.2.2.2.1, hD1.weaken fun _ _ _ h => hF _ h⟩, hS1.F ht'⟩) hS1.2.2 hc hs
  · obtain ⟨hP1, hK1, hD1⟩ := hB
    rw [ht] at hP1
    exact kk r u hw H1 locs1 ls hP1 (hD1.weaken fun _ _ _ h => hF _ h) hS1 hl
theorem jr_callXVil (C : jr_C p s m args c cc nL own Ts D cl tys A) {post : Int32 → S → Prop} {postq : Int64 → S → Prop} {y : MethodName} {wy : List Cond} {rm : Room} {bytes : ByteArray} {maxL index n : Nat} {ret : Option FieldType} {As st0 : List Value} {Cn : String} {T : u_T} {N ci q0 b : Nat} {fs : List Value} (hlocks : meth.locks = false) (hnt : ∀ x ∈ c.exceptionTable.toList, False) (hZ : jr_Z A s s.heap) (hss : ∀ q ∈ ss', vk_R q.1 q.2.1 q.2.2.1 q.2.2.2 s) (hM : jr_Ti l y wy rm (.ref b :: As) D cl tys ws ss' wf post xp' mc ms) (cw : CallW R s args own Cn index y bytes maxL ret wy rm mc ms n) (hdg : decode cc pc = .ok (.invokevirtual index, 3)) (hc9 : cl[ci]? = some (Cn, T, N)) (he : ws[q0]? = some (b, .inr (ci, fs))) (hn : As.length = n) (hst : st0 = As.reverse ++ .ref b :: rest) (hro : (rest.map fun v => v.category).sum ≤ 8) (hcl : cells + mc ≤ R.cells ∧ slots + ms ≤ R.slots) (hc : cells + mc ≤ MC) (hs : slots + ms ≤ MS) (kx : ∀ (E : String) (u : S), xp' E u → xp E u) (kk : ∀ (r : Int32) (u : S), post r u → jr_J p l e R s m args below meth c A D cl nL (cells + mc) (slots + ms) (vx_MQ below (va_Ql postq (jr_B D cl tys wf A) A) (jr_X D cl tys wf A xp) args s MC MS A) (wf u) (pc + 3) lv (.int r :: rest)) : jr_J p l e R s m args below meth c A D cl nL cells slots (vx_MQ below (va_Ql postq (jr_B D cl tys wf A) A) (jr_X D cl tys wf A xp) args s MC MS A) ws pc lv st0 := by
  intro H locs ls hP hD hS hl
  subst hst
  have hF : ∀ q, va_A ws H.size q → A q := jr_free hD hS C.2.2.2.2.2.2.1
  refine vx_calli (vx_runV (As := As) (rest := rest) ⟨C.1, C.2.1, C.2.2.1, C.2.2.2.1, C.2.2.2.2.1⟩ (hM H.size) cw ⟨jr_blindX, va_recv C.2.2.2.2.2.1 hP hc9 he, fun U hU hW => ⟨rfl, ⟨by rw [hU], by rw [hU]; exact hP, va_K.moved hW.alike C.2.2.2.2.2.1, hD.weaken (fun _ _ _ _ => trivial), C.2.2.2.2.2.2.2.warm hW⟩, hZ.at hS hF hU hW.alike, fun q hq => (hss q hq).warm hW⟩⟩ rfl hn hl.1 rfl (lv_room hro) hdg hcl) hS (fun q _ h => hF q h) hF (fun q _ h => hF q h) (fun E ce q9 u t H1 locs1 ht hvm _ hBX hz hk hS1 hce hcv hcl9 => ?_) (fun r u t H1 locs1 ht hvm hw hB hz hk hS1 => ?_)
  · obtain ⟨hxe, hP1, hK1, hD1⟩ := hBX
    rw [ht] at hP1
    exact vx_out (fun x hx => (hnt x hx).elim) hlocks hce hcv hcl9 (fun t' ht' hvm' => ⟨u, trivial, ⟨kx E u hxe, by rw [ht']; exact hP1, va_K.moved hvm' C.2.2.2.2.2.1, hD1.weaken fun _ _ _ h => hF _ h⟩, hS1.F ht'⟩) hS1.2.2 hc hs
  · obtain ⟨hP1, hK1, hD1⟩ := hB
    rw [ht] at hP1
    exact kk r u hw H1 locs1 ls hP1 (hD1.weaken fun _ _ _ h => hF _ h) hS1 hl
theorem jr_callXViv (C : jr_C p s m args c cc nL own Ts D cl tys A) {post : Int32 → S → Prop} {postq : S → Prop} {y : MethodName} {wy : List Cond} {rm : Room} {bytes : ByteArray} {maxL index n : Nat} {ret : Option FieldType} {As st0 : List Value} {Cn : String} {T : u_T} {N ci q0 b : Nat} {fs : List Value} (hlocks : meth.locks = false) (hnt : ∀ x ∈ c.exceptionTable.toList, False) (hZ : jr_Z A s s.heap) (hss : ∀ q ∈ ss', vk_R q.1 q.2.1 q.2.2.1 q.2.2.2 s) (hM : jr_Ti l y wy rm (.ref b :: As) D cl tys ws ss' wf post xp' mc ms) (cw : CallW R s args own Cn index y bytes maxL ret wy rm mc ms n) (hdg : decode cc pc = .ok (.invokevirtual index, 3)) (hc9 : cl[ci]? = some (Cn, T, N)) (he : ws[q0]? = some (b, .inr (ci, fs))) (hn : As.length = n) (hst : st0 = As.reverse ++ .ref b :: rest) (hro : (rest.map fun v => v.category).sum ≤ 8) (hcl : cells + mc ≤ R.cells ∧ slots + ms ≤ R.slots) (hc : cells + mc ≤ MC) (hs : slots + ms ≤ MS) (kx : ∀ (E : String) (u : S), xp' E u → xp E u) (kk : ∀ (r : Int32) (u : S), post r u → jr_J p l e R s m args below meth c A D cl nL (cells + mc) (slots + ms) (vx_MQ below (va_Qv postq (jr_B D cl tys wf A) A) (jr_X D cl tys wf A xp) args s MC MS A) (wf u) (pc + 3) lv (.int r :: rest)) : jr_J p l e R s m args below meth c A D cl nL cells slots (vx_MQ below (va_Qv postq (jr_B D cl tys wf A) A) (jr_X D cl tys wf A xp) args s MC MS A) ws pc lv st0 := by
  intro H locs ls hP hD hS hl
  subst hst
  have hF : ∀ q, va_A ws H.size q → A q := jr_free hD hS C.2.2.2.2.2.2.1
  refine vx_calli (vx_runV (As := As) (rest := rest) ⟨C.1, C.2.1, C.2.2.1, C.2.2.2.1, C.2.2.2.2.1⟩ (hM H.size) cw ⟨jr_blindX, va_recv C.2.2.2.2.2.1 hP hc9 he, fun U hU hW => ⟨rfl, ⟨by rw [hU], by rw [hU]; exact hP, va_K.moved hW.alike C.2.2.2.2.2.1, hD.weaken (fun _ _ _ _ => trivial), C.2.2.2.2.2.2.2.warm hW⟩, hZ.at hS hF hU hW.alike, fun q hq => (hss q hq).warm hW⟩⟩ rfl hn hl.1 rfl (lv_room hro) hdg hcl) hS (fun q _ h => hF q h) hF (fun q _ h => hF q h) (fun E ce q9 u t H1 locs1 ht hvm _ hBX hz hk hS1 hce hcv hcl9 => ?_) (fun r u t H1 locs1 ht hvm hw hB hz hk hS1 => ?_)
  · obtain ⟨hxe, hP1, hK1, hD1⟩ := hBX
    rw [ht] at hP1
    exact vx_out (fun x hx => (hnt x hx).elim) hlocks hce hcv hcl9 (fun t' ht' hvm' => ⟨u, trivial, ⟨kx E u hxe, by rw [ht']; exact hP1, va_K.moved hvm' C.2.2.2.2.2.1, hD1.weaken fun _ _ _ h => hF _ h⟩, hS1.F ht'⟩) hS1.2.2 hc hs
  · obtain ⟨hP1, hK1, hD1⟩ := hB
    rw [ht] at hP1
    exact kk r u hw H1 locs1 ls hP1 (hD1.weaken fun _ _ _ h => hF _ h) hS1 hl
theorem jr_callSi (C : jr_C p s m args c cc nL own Ts D cl tys A) {post : Int32 → S → Prop} {y : MethodName} {wy : List Cond} {rm : Room} {bytes : ByteArray} {maxL index n : Nat} {ret : Option FieldType} {As st0 : List Value} (hM : jr_Mi l y wy rm As D cl tys ws wf post) (cw : CallB R s args own index y bytes maxL ret wy rm 0 0 n ∧ (Cond.static y).before args s = true) (hdg : decode cc pc = .ok (.invokestatic index, 3)) (hn : As.length = n) (hst : st0 = As.reverse ++ rest) (hro : (rest.map fun v => v.category).sum ≤ 8) (hcl : cells ≤ R.cells ∧ slots ≤ R.slots) (kk : ∀ (r : Int32) (u : S), post r u → jr_J p l e R s m args below meth c A D cl nL cells slots Q (wf u) (pc + 3) lv (.int r :: rest)) : jr_J p l e R s m args below meth c A D cl nL cells slots Q ws pc lv st0 := by
  intro H locs ls hP hD hS hl
  subst hst
  have hF : ∀ q, va_A ws H.size q → A q := jr_free hD hS C.2.2.2.2.2.2.1
  refine va_calli (va_runS (As := As) (rest := rest) ⟨C.1, C.2.1, C.2.2.1, C.2.2.2.1, C.2.2.2.2.1⟩ (hM H.size) cw ⟨jr_blind, fun U hU hW => ⟨rfl, by rw [hU], by rw [hU]; exact hP, va_K.moved hW.alike C.2.2.2.2.2.1, hD.weaken (fun _ _ _ _ => trivial), C.2.2.2.2.2.2.2.warm hW⟩⟩ rfl hn hl.1 rfl (lv_room hro) hdg hcl) hS (fun q _ h => hF q h) hF (fun r u t H1 locs1 ht hvm hw hB hz hk hS1 => ?_)
  obtain ⟨hP1, hK1, hD1⟩ := hB
  rw [ht] at hP1
  exact kk r u hw H1 locs1 ls hP1 (hD1.weaken fun _ _ _ h => hF _ h) hS1 hl
theorem jr_callXSii (C : jr_C p s m args c cc nL own Ts D cl tys A) {post : Int32 → S → Prop} {postq : Int32 → S → Prop} {y : MethodName} {wy : List Cond} {rm : Room} {bytes : ByteArray} {maxL index n : Nat} {ret : Option FieldType} {As st0 : List Value} (hlocks : meth.locks = false) (hnt : ∀ x ∈ c.exceptionTable.toList, False) (hZ : jr_Z A s s.heap) (hss : ∀ q ∈ ss', vk_R q.1 q.2.1 q.2.2.1 q.2.2.2 s) (hM : jr_Ti l y wy rm As D cl tys ws ss' wf post xp' mc ms) (cw : CallB R s args own index y bytes maxL ret wy rm mc ms n ∧ (Cond.static y).before args s = true) (hdg : decode cc pc = .ok (.invokestatic index, 3)) (hn : As.length = n) (hst : st0 = As.reverse ++ rest) (hro : (rest.map fun v => v.category).sum ≤ 8) (hcl : cells + mc ≤ R.cells ∧ slots + ms ≤ R.slots) (hc : cells + mc ≤ MC) (hs : slots + ms ≤ MS) (kx : ∀ (E : String) (u : S), xp' E u → xp E u) (kk : ∀ (r : Int32) (u : S), post r u → jr_J p l e R s m args below meth c A D cl nL (cells + mc) (slots + ms) (vx_MQ below (va_Qi postq (jr_B D cl tys wf A) A) (jr_X D cl tys wf A xp) args s MC MS A) (wf u) (pc + 3) lv (.int r :: rest)) : jr_J p l e R s m args below meth c A D cl nL cells slots (vx_MQ below (va_Qi postq (jr_B D cl tys wf A) A) (jr_X D cl tys wf A xp) args s MC MS A) ws pc lv st0 := by
  intro H locs ls hP hD hS hl
  subst hst
  have hF : ∀ q, va_A ws H.size q → A q := jr_free hD hS C.2.2.2.2.2.2.1
  refine vx_calli (vx_runS (As := As) (rest := rest) ⟨C.1, C.2.1, C.2.2.1, C.2.2.2.1, C.2.2.2.2.1⟩ (hM H.size) cw ⟨jr_blindX, fun U hU hW => ⟨rfl, ⟨by rw [hU], by rw [hU]; exact hP, va_K.moved hW.alike C.2.2.2.2.2.1, hD.weaken (fun _ _ _ _ => trivial), C.2.2.2.2.2.2.2.warm hW⟩, hZ.at hS hF hU hW.alike, fun q hq => (hss q hq).warm hW⟩⟩ rfl hn hl.1 rfl (lv_room hro) hdg hcl) hS (fun q _ h => hF q h) hF (fun q _ h => hF q h) (fun E ce q9 u t H1 locs1 ht hvm _ hBX hz hk hS1 hce hcv hcl9 => ?_) (fun r u t H1 locs1 ht hvm hw hB hz hk hS1 => ?_)
  · obtain ⟨hxe, hP1, hK1, hD1⟩ := hBX
    rw [ht] at hP1
    exact vx_out (fun x hx => (hnt x hx).elim) hlocks hce hcv hcl9 (fun t' ht' hvm' => ⟨u, trivial, ⟨kx E u hxe, by rw [ht']; exact hP1, va_K.moved hvm' C.2.2.2.2.2.1, hD1.weaken fun _ _ _ h => hF _ h⟩, hS1.F ht'⟩) hS1.2.2 hc hs
  · obtain ⟨hP1, hK1, hD1⟩ := hB
    rw [ht] at hP1
    exact kk r u hw H1 locs1 ls hP1 (hD1.weaken fun _ _ _ h => hF _ h) hS1 hl
theorem jr_callXSil (C : jr_C p s m args c cc nL own Ts D cl tys A) {post : Int32 → S → Prop} {postq : Int64 → S → Prop} {y : MethodName} {wy : List Cond} {rm : Room} {bytes : ByteArray} {maxL index n : Nat} {ret : Option FieldType} {As st0 : List Value} (hlocks : meth.locks = false) (hnt : ∀ x ∈ c.exceptionTable.toList, False) (hZ : jr_Z A s s.heap) (hss : ∀ q ∈ ss', vk_R q.1 q.2.1 q.2.2.1 q.2.2.2 s) (hM : jr_Ti l y wy rm As D cl tys ws ss' wf post xp' mc ms) (cw : CallB R s args own index y bytes maxL ret wy rm mc ms n ∧ (Cond.static y).before args s = true) (hdg : decode cc pc = .ok (.invokestatic index, 3)) (hn : As.length = n) (hst : st0 = As.reverse ++ rest) (hro : (rest.map fun v => v.category).sum ≤ 8) (hcl : cells + mc ≤ R.cells ∧ slots + ms ≤ R.slots) (hc : cells + mc ≤ MC) (hs : slots + ms ≤ MS) (kx : ∀ (E : String) (u : S), xp' E u → xp E u) (kk : ∀ (r : Int32) (u : S), post r u → jr_J p l e R s m args below meth c A D cl nL (cells + mc) (slots + ms) (vx_MQ below (va_Ql postq (jr_B D cl tys wf A) A) (jr_X D cl tys wf A xp) args s MC MS A) (wf u) (pc + 3) lv (.int r :: rest)) : jr_J p l e R s m args below meth c A D cl nL cells slots (vx_MQ below (va_Ql postq (jr_B D cl tys wf A) A) (jr_X D cl tys wf A xp) args s MC MS A) ws pc lv st0 := by
  intro H locs ls hP hD hS hl
  subst hst
  have hF : ∀ q, va_A ws H.size q → A q := jr_free hD hS C.2.2.2.2.2.2.1
  refine vx_calli (vx_runS (As := As) (rest := rest) ⟨C.1, C.2.1, C.2.2.1, C.2.2.2.1, C.2.2.2.2.1⟩ (hM H.size) cw ⟨jr_blindX, fun U hU hW => ⟨rfl, ⟨by rw [hU], by rw [hU]; exact hP, va_K.moved hW.alike C.2.2.2.2.2.1, hD.weaken (fun _ _ _ _ => trivial), C.2.2.2.2.2.2.2.warm hW⟩, hZ.at hS hF hU hW.alike, fun q hq => (hss q hq).warm hW⟩⟩ rfl hn hl.1 rfl (lv_room hro) hdg hcl) hS (fun q _ h => hF q h) hF (fun q _ h => hF q h) (fun E ce q9 u t H1 locs1 ht hvm _ hBX hz hk hS1 hce hcv hcl9 => ?_) (fun r u t H1 locs1 ht hvm hw hB hz hk hS1 => ?_)
  · obtain ⟨hxe, hP1, hK1, hD1⟩ := hBX
    rw [ht] at hP1
    exact vx_out (fun x hx => (hnt x hx).elim) hlocks hce hcv hcl9 (fun t' ht' hvm' => ⟨u, trivial, ⟨kx E u hxe, by rw [ht']; exact hP1, va_K.moved hvm' C.2.2.2.2.2.1, hD1.weaken fun _ _ _ h => hF _ h⟩, hS1.F ht'⟩) hS1.2.2 hc hs
  · obtain ⟨hP1, hK1, hD1⟩ := hB
    rw [ht] at hP1
    exact kk r u hw H1 locs1 ls hP1 (hD1.weaken fun _ _ _ h => hF _ h) hS1 hl
theorem jr_callXSiv (C : jr_C p s m args c cc nL own Ts D cl tys A) {post : Int32 → S → Prop} {postq : S → Prop} {y : MethodName} {wy : List Cond} {rm : Room} {bytes : ByteArray} {maxL index n : Nat} {ret : Option FieldType} {As st0 : List Value} (hlocks : meth.locks = false) (hnt : ∀ x ∈ c.exceptionTable.toList, False) (hZ : jr_Z A s s.heap) (hss : ∀ q ∈ ss', vk_R q.1 q.2.1 q.2.2.1 q.2.2.2 s) (hM : jr_Ti l y wy rm As D cl tys ws ss' wf post xp' mc ms) (cw : CallB R s args own index y bytes maxL ret wy rm mc ms n ∧ (Cond.static y).before args s = true) (hdg : decode cc pc = .ok (.invokestatic index, 3)) (hn : As.length = n) (hst : st0 = As.reverse ++ rest) (hro : (rest.map fun v => v.category).sum ≤ 8) (hcl : cells + mc ≤ R.cells ∧ slots + ms ≤ R.slots) (hc : cells + mc ≤ MC) (hs : slots + ms ≤ MS) (kx : ∀ (E : String) (u : S), xp' E u → xp E u) (kk : ∀ (r : Int32) (u : S), post r u → jr_J p l e R s m args below meth c A D cl nL (cells + mc) (slots + ms) (vx_MQ below (va_Qv postq (jr_B D cl tys wf A) A) (jr_X D cl tys wf A xp) args s MC MS A) (wf u) (pc + 3) lv (.int r :: rest)) : jr_J p l e R s m args below meth c A D cl nL cells slots (vx_MQ below (va_Qv postq (jr_B D cl tys wf A) A) (jr_X D cl tys wf A xp) args s MC MS A) ws pc lv st0 := by
  intro H locs ls hP hD hS hl
  subst hst
  have hF : ∀ q, va_A ws H.size q → A q := jr_free hD hS C.2.2.2.2.2.2.1
  refine vx_calli (vx_runS (As := As) (rest := rest) ⟨C.1, C.2.1, C.2.2.1, C.2.2.2.1, C.2.2.2.2.1⟩ (hM H.size) cw ⟨jr_blindX, fun U hU hW => ⟨rfl, ⟨by rw [hU], by rw [hU]; exact hP, va_K.moved hW.alike C.2.2.2.2.2.1, hD.weaken (fun _ _ _ _ => trivial), C.2.2.2.2.2.2.2.warm hW⟩, hZ.at hS hF hU hW.alike, fun q hq => (hss q hq).warm hW⟩⟩ rfl hn hl.1 rfl (lv_room hro) hdg hcl) hS (fun q _ h => hF q h) hF (fun q _ h => hF q h) (fun E ce q9 u t H1 locs1 ht hvm _ hBX hz hk hS1 hce hcv hcl9 => ?_) (fun r u t H1 locs1 ht hvm hw hB hz hk hS1 => ?_)
  · obtain ⟨hxe, hP1, hK1, hD1⟩ := hBX
    rw [ht] at hP1
    exact vx_out (fun x hx => (hnt x hx).elim) hlocks hce hcv hcl9 (fun t' ht' hvm' => ⟨u, trivial, ⟨kx E u hxe, by rw [ht']; exact hP1, va_K.moved hvm' C.2.2.2.2.2.1, hD1.weaken fun _ _ _ h => hF _ h⟩, hS1.F ht'⟩) hS1.2.2 hc hs
  · obtain ⟨hP1, hK1, hD1⟩ := hB
    rw [ht] at hP1
    exact kk r u hw H1 locs1 ls hP1 (hD1.weaken fun _ _ _ h => hF _ h) hS1 hl
theorem jr_callVNi (C : jr_C p s m args c cc nL own Ts D cl tys A) {post : Int32 → S → Prop} {y : MethodName} {wy : List Cond} {rm : Room} {bytes : ByteArray} {maxL index n : Nat} {ret : Option FieldType} {host : String} {As st0 : List Value} {Cn : String} {T : u_T} {N ci q0 b : Nat} {fs : List Value} (hM : jr_Mi l y wy rm (.ref b :: As) D cl tys ws wf post) (cw : va_CN R s args own index y host bytes maxL ret wy rm 0 0 n ∧ (Cond.instanceMethod y).before args s = true ∧ (Cond.selects Cn y y).before args s = true) (hdg : decode cc pc = .ok (.invokevirtual index, 3)) (hc9 : cl[ci]? = some (Cn, T, N)) (he : ws[q0]? = some (b, .inr (ci, fs))) (hn : As.length = n) (hst : st0 = As.reverse ++ .ref b :: rest) (hro : (rest.map fun v => v.category).sum ≤ 8) (hcl : cells ≤ R.cells ∧ slots ≤ R.slots) (kk : ∀ (r : Int32) (u : S), post r u → jr_J p l e R s m args below meth c A D cl nL cells slots Q (wf u) (pc + 3) lv (.int r :: rest)) : jr_J p l e R s m args below meth c A D cl nL cells slots Q ws pc lv st0 := by
  intro H locs ls hP hD hS hl
  subst hst
  have hF : ∀ q, va_A ws H.size q → A q := jr_free hD hS C.2.2.2.2.2.2.1
  refine va_calli (va_runVN (As := As) (rest := rest) ⟨C.1, C.2.1, C.2.2.1, C.2.2.2.1, C.2.2.2.2.1⟩ (hM H.size) cw ⟨jr_blind, va_recv C.2.2.2.2.2.1 hP hc9 he, fun U hU hW => ⟨rfl, by rw [hU], by rw [hU]; exact hP, va_K.moved hW.alike C.2.2.2.2.2.1, hD.weaken (fun _ _ _ _ => trivial), C.2.2.2.2.2.2.2.warm hW⟩⟩ rfl hn hl.1 rfl (lv_room hro) hdg hcl) hS (fun q _ h => hF q h) hF (fun r u t H1 locs1 ht hvm hw hB hz hk hS1 => ?_)
  obtain ⟨hP1, hK1, hD1⟩ := hB
  rw [ht] at hP1
  exact kk r u hw H1 locs1 ls hP1 (hD1.weaken fun _ _ _ h => hF _ h) hS1 hl
theorem jr_callSNi (C : jr_C p s m args c cc nL own Ts D cl tys A) {post : Int32 → S → Prop} {y : MethodName} {wy : List Cond} {rm : Room} {bytes : ByteArray} {maxL index n : Nat} {ret : Option FieldType} {host : String} {As st0 : List Value} (hM : jr_Mi l y wy rm As D cl tys ws wf post) (cw : va_CN R s args own index y host bytes maxL ret wy rm 0 0 n ∧ (Cond.static y).before args s = true ∧ True) (hdg : decode cc pc = .ok (.invokestatic index, 3)) (hn : As.length = n) (hst : st0 = As.reverse ++ rest) (hro : (rest.map fun v => v.category).sum ≤ 8) (hcl : cells ≤ R.cells ∧ slots ≤ R.slots) (kk : ∀ (r : Int32) (u : S), post r u → jr_J p l e R s m args below meth c A D cl nL cells slots Q (wf u) (pc + 3) lv (.int r :: rest)) : jr_J p l e R s m args below meth c A D cl nL cells slots Q ws pc lv st0 := by
  intro H locs ls hP hD hS hl
  subst hst
  have hF : ∀ q, va_A ws H.size q → A q := jr_free hD hS C.2.2.2.2.2.2.1
  refine va_calli (va_runSN (As := As) (rest := rest) ⟨C.1, C.2.1, C.2.2.1, C.2.2.2.1, C.2.2.2.2.1⟩ (hM H.size) cw ⟨jr_blind, fun U hU hW => ⟨rfl, by rw [hU], by rw [hU]; exact hP, va_K.moved hW.alike C.2.2.2.2.2.1, hD.weaken (fun _ _ _ _ => trivial), C.2.2.2.2.2.2.2.warm hW⟩⟩ rfl hn hl.1 rfl (lv_room hro) hdg hcl) hS (fun q _ h => hF q h) hF (fun r u t H1 locs1 ht hvm hw hB hz hk hS1 => ?_)
  obtain ⟨hP1, hK1, hD1⟩ := hB
  rw [ht] at hP1
  exact kk r u hw H1 locs1 ls hP1 (hD1.weaken fun _ _ _ h => hF _ h) hS1 hl
theorem jr_retl (C : jr_C p s m args c cc nL own Ts D cl tys A) {post : Int64 → S → Prop} {u : S} {v : Int64} (hr : meth.sig.returnType = some .long) (hlocks : meth.locks = false) (hdg : decode cc pc = .ok (.lreturn, 1)) (hp : post v u) (hw : ws = wf u) : jr_J p l e R s m args below meth c A D cl nL cells slots (MQ below (va_Ql post (jr_B D cl tys wf A) A) args s cells slots A) ws pc lv [.long v] := by
  subst hw
  intro H locs ls hP hD hS hl
  exact W.lret C.1 C.2.1 hr (fun t ht hW => ⟨⟨v, u, rfl, hp, by rw [ht]; exact hP, va_K.moved hW.alike C.2.2.2.2.2.1, hD⟩, hS.F ht⟩) hS.2.2 hdg hlocks
theorem jr_retXl (C : jr_C p s m args c cc nL own Ts D cl tys A) {post : Int64 → S → Prop} {u : S} {v : Int64} (hr : meth.sig.returnType = some .long) (hlocks : meth.locks = false) (hdg : decode cc pc = .ok (.lreturn, 1)) (hc : cells ≤ MC) (hs : slots ≤ MS) (hp : post v u) (hw : ws = wf u) : jr_J p l e R s m args below meth c A D cl nL cells slots (vx_MQ below (va_Ql post (jr_B D cl tys wf A) A) (jr_X D cl tys wf A xp) args s MC MS A) ws pc lv [.long v] := by
  subst hw
  intro H locs ls hP hD hS hl
  refine W.widen (k := MC) (n := MS) hc hs ?_
  exact vx_ret (W.lret C.1 C.2.1 hr (fun t ht hW => ⟨⟨v, u, rfl, hp, by rw [ht]; exact hP, va_K.moved hW.alike C.2.2.2.2.2.1, hD⟩, hS.F ht⟩) hS.2.2 hdg hlocks)
theorem jr_ofl {y : MethodName} {wy wy' : List Cond} {rm : Room} {av : List Value} {post : Int64 → S → Prop} (hy : plainName y.cls = true) (hw : wy = Cond.code y cc nL (some .long) :: wy') (hav : (lg_sl av).length ≤ nL) (hlv : lv_args 0 av = lv)
    (body : ∀ (p : Program) (e : Env) (s : State) (m : MethodId) (args : Array Value) (below : List Frame) (meth : Method) (c : Code) (A : Nat → Prop), jr_C p s m args c cc nL y.cls wy D cl tys A → meth.sig.returnType = some .long → meth.locks = false → jr_J p l e (headSpec wy rm).room s m args below meth c A D cl nL 0 0 (MQ below (va_Ql post (jr_B D cl tys wf A) A) args s 0 0 A) ws 0 lv []) : jr_Ml l y wy rm av D cl tys ws wf post := by
  intro sz
  refine Met.ofW hy hw ?_
  intro p e s m args below meth c s₁ B hml hv
  obtain ⟨rfl, hsz, hP, hK, hD0, hN⟩ := hv
  subst hsz
  have hl := lv_entry av hav
  rw [hlv] at hl
  rw [lg_entry_eq]
  exact body p e s m _ below meth c (va_A ws s.heap.size) ⟨B.exec, B.bytes, hml, findClass_of_methodNamed B.named, atoms_spec (ws := wy) B.pre, hK, fun q h => Or.inr h, hN⟩ B.returns B.notSynchronized s.heap [] _ hP hD0.self va_S.rf hl
theorem jr_ofFl {y : MethodName} {wy wy' : List Cond} {rm : Room} {av : List Value} {post : Int64 → S → Prop} (hy : plainFor y = true) (hw : wy = Cond.code y cc nL (some .long) :: wy') (hav : (lg_sl av).length ≤ nL) (hlv : lv_args 0 av = lv)
    (body : ∀ (p : Program) (e : Env) (s : State) (m : MethodId) (args : Array Value) (below : List Frame) (meth : Method) (c : Code) (A : Nat → Prop), jr_C p s m args c cc nL y.cls wy D cl tys A → meth.sig.returnType = some .long → meth.locks = false → jr_J p l e (headSpec wy rm).room s m args below meth c A D cl nL 0 0 (MQ below (va_Ql post (jr_B D cl tys wf A) A) args s 0 0 A) ws 0 lv []) : jr_Ml l y wy rm av D cl tys ws wf post := by
  intro sz
  refine va_MetF hy hw ?_
  intro p e s m args below meth c s₁ B hml hv
  obtain ⟨rfl, hsz, hP, hK, hD0, hN⟩ := hv
  subst hsz
  have hl := lv_entry av hav
  rw [hlv] at hl
  rw [lg_entry_eq]
  exact body p e s m _ below meth c (va_A ws s.heap.size) ⟨B.exec, B.bytes, hml, findClass_of_methodNamed B.named, atoms_spec (ws := wy) B.pre, hK, fun q h => Or.inr h, hN⟩ B.returns B.notSynchronized s.heap [] _ hP hD0.self va_S.rf hl
theorem jr_ofXl {y : MethodName} {wy wy' : List Cond} {rm : Room} {av : List Value} {post : Int64 → S → Prop} (hy : plainName y.cls = true) (hw : wy = Cond.code y cc nL (some .long) :: wy') (hav : (lg_sl av).length ≤ nL) (hlv : lv_args 0 av = lv)
    (body : ∀ (p : Program) (e : Env) (s : State) (m : MethodId) (args : Array Value) (below : List Frame) (meth : Method) (c : Code) (A : Nat → Prop), jr_C p s m args c cc nL y.cls wy D cl tys A → meth.sig.returnType = some .long → meth.locks = false → (∀ x ∈ c.exceptionTable.toList, False) → jr_Z A s s.heap → (∀ q ∈ ss, vk_R q.1 q.2.1 q.2.2.1 q.2.2.2 s) → jr_J p l e (headSpec wy rm).room s m args below meth c A D cl nL 0 0 (vx_MQ below (va_Ql post (jr_B D cl tys wf A) A) (jr_X D cl tys wf A xp) args s mc ms A) ws 0 lv []) : jr_Tl l y wy rm av D cl tys ws ss wf post xp mc ms := by
  intro sz
  refine vx_ofW hy hw ?_
  intro p e s m args below meth c s₁ B hml hnt hv
  obtain ⟨rfl, ⟨hsz, hP, hK, hD0, hN⟩, hZ, hs9⟩ := hv
  subst hsz
  have hl := lv_entry av hav
  rw [hlv] at hl
  rw [lg_entry_eq]
  exact body p e s m _ below meth c (va_A ws s.heap.size) ⟨B.exec, B.bytes, hml, findClass_of_methodNamed B.named, atoms_spec (ws := wy) B.pre, hK, fun q h => Or.inr h, hN⟩ B.returns B.notSynchronized hnt hZ hs9 s.heap [] _ hP hD0.self va_S.rf hl
theorem jr_callVl (C : jr_C p s m args c cc nL own Ts D cl tys A) {post : Int64 → S → Prop} {y : MethodName} {wy : List Cond} {rm : Room} {bytes : ByteArray} {maxL index n : Nat} {ret : Option FieldType} {As st0 : List Value} {Cn : String} {T : u_T} {N ci q0 b : Nat} {fs : List Value} (hM : jr_Ml l y wy rm (.ref b :: As) D cl tys ws wf post) (cw : CallW R s args own Cn index y bytes maxL ret wy rm 0 0 n) (hdg : decode cc pc = .ok (.invokevirtual index, 3)) (hc9 : cl[ci]? = some (Cn, T, N)) (he : ws[q0]? = some (b, .inr (ci, fs))) (hn : As.length = n) (hst : st0 = As.reverse ++ .ref b :: rest) (hro : (rest.map fun v => v.category).sum ≤ 8) (hcl : cells ≤ R.cells ∧ slots ≤ R.slots) (kk : ∀ (r : Int64) (u : S), post r u → jr_J p l e R s m args below meth c A D cl nL cells slots Q (wf u) (pc + 3) lv (.long r :: rest)) : jr_J p l e R s m args below meth c A D cl nL cells slots Q ws pc lv st0 := by
  intro H locs ls hP hD hS hl
  subst hst
  have hF : ∀ q, va_A ws H.size q → A q := jr_free hD hS C.2.2.2.2.2.2.1
  refine va_calll (va_runV (As := As) (rest := rest) ⟨C.1, C.2.1, C.2.2.1, C.2.2.2.1, C.2.2.2.2.1⟩ (hM H.size) cw ⟨jr_blind, va_recv C.2.2.2.2.2.1 hP hc9 he, fun U hU hW => ⟨rfl, by rw [hU], by rw [hU]; exact hP, va_K.moved hW.alike C.2.2.2.2.2.1, hD.weaken (fun _ _ _ _ => trivial), C.2.2.2.2.2.2.2.warm hW⟩⟩ rfl hn hl.1 rfl (lv_room hro) hdg hcl) hS (fun q _ h => hF q h) hF (fun r u t H1 locs1 ht hvm hw hB hz hk hS1 => ?_)
  obtain ⟨hP1, hK1, hD1⟩ := hB
  rw [ht] at hP1
  exact kk r u hw H1 locs1 ls hP1 (hD1.weaken fun _ _ _ h => hF _ h) hS1 hl
theorem jr_callXVli (C : jr_C p s m args c cc nL own Ts D cl tys A) {post : Int64 → S → Prop} {postq : Int32 → S → Prop} {y : MethodName} {wy : List Cond} {rm : Room} {bytes : ByteArray} {maxL index n : Nat} {ret : Option FieldType} {As st0 : List Value} {Cn : String} {T : u_T} {N ci q0 b : Nat} {fs : List Value} (hlocks : meth.locks = false) (hnt : ∀ x ∈ c.exceptionTable.toList, False) (hZ : jr_Z A s s.heap) (hss : ∀ q ∈ ss', vk_R q.1 q.2.1 q.2.2.1 q.2.2.2 s) (hM : jr_Tl l y wy rm (.ref b :: As) D cl tys ws ss' wf post xp' mc ms) (cw : CallW R s args own Cn index y bytes maxL ret wy rm mc ms n) (hdg : decode cc pc = .ok (.invokevirtual index, 3)) (hc9 : cl[ci]? = some (Cn, T, N)) (he : ws[q0]? = some (b, .inr (ci, fs))) (hn : As.length = n) (hst : st0 = As.reverse ++ .ref b :: rest) (hro : (rest.map fun v => v.category).sum ≤ 8) (hcl : cells + mc ≤ R.cells ∧ slots + ms ≤ R.slots) (hc : cells + mc ≤ MC) (hs : slots + ms ≤ MS) (kx : ∀ (E : String) (u : S), xp' E u → xp E u) (kk : ∀ (r : Int64) (u : S), post r u → jr_J p l e R s m args below meth c A D cl nL (cells + mc) (slots + ms) (vx_MQ below (va_Qi postq (jr_B D cl tys wf A) A) (jr_X D cl tys wf A xp) args s MC MS A) (wf u) (pc + 3) lv (.long r :: rest)) : jr_J p l e R s m args below meth c A D cl nL cells slots (vx_MQ below (va_Qi postq (jr_B D cl tys wf A) A) (jr_X D cl tys wf A xp) args s MC MS A) ws pc lv st0 := by
  intro H locs ls hP hD hS hl
  subst hst
  have hF : ∀ q, va_A ws H.size q → A q := jr_free hD hS C.2.2.2.2.2.2.1
  refine vx_calll (vx_runV (As := As) (rest := rest) ⟨C.1, C.2.1, C.2.2.1, C.2.2.2.1, C.2.2.2.2.1⟩ (hM H.size) cw ⟨jr_blindX, va_recv C.2.2.2.2.2.1 hP hc9 he, fun U hU hW => ⟨rfl, ⟨by rw [hU], by rw [hU]; exact hP, va_K.moved hW.alike C.2.2.2.2.2.1, hD.weaken (fun _ _ _ _ => trivial), C.2.2.2.2.2.2.2.warm hW⟩, hZ.at hS hF hU hW.alike, fun q hq => (hss q hq).warm hW⟩⟩ rfl hn hl.1 rfl (lv_room hro) hdg hcl) hS (fun q _ h => hF q h) hF (fun q _ h => hF q h) (fun E ce q9 u t H1 locs1 ht hvm _ hBX hz hk hS1 hce hcv hcl9 => ?_) (fun r u t H1 locs1 ht hvm hw hB hz hk hS1 => ?_)
  · obtain ⟨hxe, hP1, hK1, hD1⟩ := hBX
    rw [ht] at hP1
    exact vx_out (fun x hx => (hnt x hx).elim) hlocks hce hcv hcl9 (fun t' ht' hvm' => ⟨u, trivial, ⟨kx E u hxe, by rw [ht']; exact hP1, va_K.moved hvm' C.2.2.2.2.2.1, hD1.weaken fun _ _ _ h => hF _ h⟩, hS1.F ht'⟩) hS1.2.2 hc hs
  · obtain ⟨hP1, hK1, hD1⟩ := hB
    rw [ht] at hP1
    exact kk r u hw H1 locs1 ls hP1 (hD1.weaken fun _ _ _ h => hF _ h) hS1 hl
theorem jr_callXVll (C : jr_C p s m args c cc nL own Ts D cl tys A) {post : Int64 → S → Prop} {postq : Int64 → S → Prop} {y : MethodName} {wy : List Cond} {rm : Room} {bytes : ByteArray} {maxL index n : Nat} {ret : Option FieldType} {As st0 : List Value} {Cn : String} {T : u_T} {N ci q0 b : Nat} {fs : List Value} (hlocks : meth.locks = false) (hnt : ∀ x ∈ c.exceptionTable.toList, False) (hZ : jr_Z A s s.heap) (hss : ∀ q ∈ ss', vk_R q.1 q.2.1 q.2.2.1 q.2.2.2 s) (hM : jr_Tl l y wy rm (.ref b :: As) D cl tys ws ss' wf post xp' mc ms) (cw : CallW R s args own Cn index y bytes maxL ret wy rm mc ms n) (hdg : decode cc pc = .ok (.invokevirtual index, 3)) (hc9 : cl[ci]? = some (Cn, T, N)) (he : ws[q0]? = some (b, .inr (ci, fs))) (hn : As.length = n) (hst : st0 = As.reverse ++ .ref b :: rest) (hro : (rest.map fun v => v.category).sum ≤ 8) (hcl : cells + mc ≤ R.cells ∧ slots + ms ≤ R.slots) (hc : cells + mc ≤ MC) (hs : slots + ms ≤ MS) (kx : ∀ (E : String) (u : S), xp' E u → xp E u) (kk : ∀ (r : Int64) (u : S), post r u → jr_J p l e R s m args below meth c A D cl nL (cells + mc) (slots + ms) (vx_MQ below (va_Ql postq (jr_B D cl tys wf A) A) (jr_X D cl tys wf A xp) args s MC MS A) (wf u) (pc + 3) lv (.long r :: rest)) : jr_J p l e R s m args below meth c A D cl nL cells slots (vx_MQ below (va_Ql postq (jr_B D cl tys wf A) A) (jr_X D cl tys wf A xp) args s MC MS A) ws pc lv st0 := by
  intro H locs ls hP hD hS hl
  subst hst
  have hF : ∀ q, va_A ws H.size q → A q := jr_free hD hS C.2.2.2.2.2.2.1
  refine vx_calll (vx_runV (As := As) (rest := rest) ⟨C.1, C.2.1, C.2.2.1, C.2.2.2.1, C.2.2.2.2.1⟩ (hM H.size) cw ⟨jr_blindX, va_recv C.2.2.2.2.2.1 hP hc9 he, fun U hU hW => ⟨rfl, ⟨by rw [hU], by rw [hU]; exact hP, va_K.moved hW.alike C.2.2.2.2.2.1, hD.weaken (fun _ _ _ _ => trivial), C.2.2.2.2.2.2.2.warm hW⟩, hZ.at hS hF hU hW.alike, fun q hq => (hss q hq).warm hW⟩⟩ rfl hn hl.1 rfl (lv_room hro) hdg hcl) hS (fun q _ h => hF q h) hF (fun q _ h => hF q h) (fun E ce q9 u t H1 locs1 ht hvm _ hBX hz hk hS1 hce hcv hcl9 => ?_) (fun r u t H1 locs1 ht hvm hw hB hz hk hS1 => ?_)
  · obtain ⟨hxe, hP1, hK1, hD1⟩ := hBX
    rw [ht] at hP1
    exact vx_out (fun x hx => (hnt x hx).elim) hlocks hce hcv hcl9 (fun t' ht' hvm' => ⟨u, trivial, ⟨kx E u hxe, by rw [ht']; exact hP1, va_K.moved hvm' C.2.2.2.2.2.1, hD1.weaken fun _ _ _ h => hF _ h⟩, hS1.F ht'⟩) hS1.2.2 hc hs
  · obtain ⟨hP1, hK1, hD1⟩ := hB
    rw [ht] at hP1
    exact kk r u hw H1 locs1 ls hP1 (hD1.weaken fun _ _ _ h => hF _ h) hS1 hl
theorem jr_callXVlv (C : jr_C p s m args c cc nL own Ts D cl tys A) {post : Int64 → S → Prop} {postq : S → Prop} {y : MethodName} {wy : List Cond} {rm : Room} {bytes : ByteArray} {maxL index n : Nat} {ret : Option FieldType} {As st0 : List Value} {Cn : String} {T : u_T} {N ci q0 b : Nat} {fs : List Value} (hlocks : meth.locks = false) (hnt : ∀ x ∈ c.exceptionTable.toList, False) (hZ : jr_Z A s s.heap) (hss : ∀ q ∈ ss', vk_R q.1 q.2.1 q.2.2.1 q.2.2.2 s) (hM : jr_Tl l y wy rm (.ref b :: As) D cl tys ws ss' wf post xp' mc ms) (cw : CallW R s args own Cn index y bytes maxL ret wy rm mc ms n) (hdg : decode cc pc = .ok (.invokevirtual index, 3)) (hc9 : cl[ci]? = some (Cn, T, N)) (he : ws[q0]? = some (b, .inr (ci, fs))) (hn : As.length = n) (hst : st0 = As.reverse ++ .ref b :: rest) (hro : (rest.map fun v => v.category).sum ≤ 8) (hcl : cells + mc ≤ R.cells ∧ slots + ms ≤ R.slots) (hc : cells + mc ≤ MC) (hs : slots + ms ≤ MS) (kx : ∀ (E : String) (u : S), xp' E u → xp E u) (kk : ∀ (r : Int64) (u : S), post r u → jr_J p l e R s m args below meth c A D cl nL (cells + mc) (slots + ms) (vx_MQ below (va_Qv postq (jr_B D cl tys wf A) A) (jr_X D cl tys wf A xp) args s MC MS A) (wf u) (pc + 3) lv (.long r :: rest)) : jr_J p l e R s m args below meth c A D cl nL cells slots (vx_MQ below (va_Qv postq (jr_B D cl tys wf A) A) (jr_X D cl tys wf A xp) args s MC MS A) ws pc lv st0 := by
  intro H locs ls hP hD hS hl
  subst hst
  have hF : ∀ q, va_A ws H.size q → A q := jr_free hD hS C.2.2.2.2.2.2.1
  refine vx_calll (vx_runV (As := As) (rest := rest) ⟨C.1, C.2.1, C.2.2.1, C.2.2.2.1, C.2.2.2.2.1⟩ (hM H.size) cw ⟨jr_blindX, va_recv C.2.2.2.2.2.1 hP hc9 he, fun U hU hW => ⟨rfl, ⟨by rw [hU], by rw [hU]; exact hP, va_K.moved hW.alike C.2.2.2.2.2.1, hD.weaken (fun _ _ _ _ => trivial), C.2.2.2.2.2.2.2.warm hW⟩, hZ.at hS hF hU hW.alike, fun q hq => (hss q hq).warm hW⟩⟩ rfl hn hl.1 rfl (lv_room hro) hdg hcl) hS (fun q _ h => hF q h) hF (fun q _ h => hF q h) (fun E ce q9 u t H1 locs1 ht hvm _ hBX hz hk hS1 hce hcv hcl9 => ?_) (fun r u t H1 locs1 ht hvm hw hB hz hk hS1 => ?_)
  · obtain ⟨hxe, hP1, hK1, hD1⟩ := hBX
    rw [ht] at hP1
    exact vx_out (fun x hx => (hnt x hx).elim) hlocks hce hcv hcl9 (fun t' ht' hvm' => ⟨u, trivial, ⟨kx E u hxe, by rw [ht']; exact hP1, va_K.moved hvm' C.2.2.2.2.2.1, hD1.weaken fun _ _ _ h => hF _ h⟩, hS1.F ht'⟩) hS1.2.2 hc hs
  · obtain ⟨hP1, hK1, hD1⟩ := hB
    rw [ht] at hP1
    exact kk r u hw H1 locs1 ls hP1 (hD1.weaken fun _ _ _ h => hF _ h) hS1 hl
theorem jr_callSl (C : jr_C p s m args c cc nL own Ts D cl tys A) {post : Int64 → S → Prop} {y : MethodName} {wy : List Cond} {rm : Room} {bytes : ByteArray} {maxL index n : Nat} {ret : Option FieldType} {As st0 : List Value} (hM : jr_Ml l y wy rm As D cl tys ws wf post) (cw : CallB R s args own index y bytes maxL ret wy rm 0 0 n ∧ (Cond.static y).before args s = true) (hdg : decode cc pc = .ok (.invokestatic index, 3)) (hn : As.length = n) (hst : st0 = As.reverse ++ rest) (hro : (rest.map fun v => v.category).sum ≤ 8) (hcl : cells ≤ R.cells ∧ slots ≤ R.slots) (kk : ∀ (r : Int64) (u : S), post r u → jr_J p l e R s m args below meth c A D cl nL cells slots Q (wf u) (pc + 3) lv (.long r :: rest)) : jr_J p l e R s m args below meth c A D cl nL cells slots Q ws pc lv st0 := by
  intro H locs ls hP hD hS hl
  subst hst
  have hF : ∀ q, va_A ws H.size q → A q := jr_free hD hS C.2.2.2.2.2.2.1
  refine va_calll (va_runS (As := As) (rest := rest) ⟨C.1, C.2.1, C.2.2.1, C.2.2.2.1, C.2.2.2.2.1⟩ (hM H.size) cw ⟨jr_blind, fun U hU hW => ⟨rfl, by rw [hU], by rw [hU]; exact hP, va_K.moved hW.alike C.2.2.2.2.2.1, hD.weaken (fun _ _ _ _ => trivial), C.2.2.2.2.2.2.2.warm hW⟩⟩ rfl hn hl.1 rfl (lv_room hro) hdg hcl) hS (fun q _ h => hF q h) hF (fun r u t H1 locs1 ht hvm hw hB hz hk hS1 => ?_)
  obtain ⟨hP1, hK1, hD1⟩ := hB
  rw [ht] at hP1
  exact kk r u hw H1 locs1 ls hP1 (hD1.weaken fun _ _ _ h => hF _ h) hS1 hl
theorem jr_callXSli (C : jr_C p s m args c cc nL own Ts D cl tys A) {post : Int64 → S → Prop} {postq : Int32 → S → Prop} {y : MethodName} {wy : List Cond} {rm : Room} {bytes : ByteArray} {maxL index n : Nat} {ret : Option FieldType} {As st0 : List Value} (hlocks : meth.locks = false) (hnt : ∀ x ∈ c.exceptionTable.toList, False) (hZ : jr_Z A s s.heap) (hss : ∀ q ∈ ss', vk_R q.1 q.2.1 q.2.2.1 q.2.2.2 s) (hM : jr_Tl l y wy rm As D cl tys ws ss' wf post xp' mc ms) (cw : CallB R s args own index y bytes maxL ret wy rm mc ms n ∧ (Cond.static y).before args s = true) (hdg : decode cc pc = .ok (.invokestatic index, 3)) (hn : As.length = n) (hst : st0 = As.reverse ++ rest) (hro : (rest.map fun v => v.category).sum ≤ 8) (hcl : cells + mc ≤ R.cells ∧ slots + ms ≤ R.slots) (hc : cells + mc ≤ MC) (hs : slots + ms ≤ MS) (kx : ∀ (E : String) (u : S), xp' E u → xp E u) (kk : ∀ (r : Int64) (u : S), post r u → jr_J p l e R s m args below meth c A D cl nL (cells + mc) (slots + ms) (vx_MQ below (va_Qi postq (jr_B D cl tys wf A) A) (jr_X D cl tys wf A xp) args s MC MS A) (wf u) (pc + 3) lv (.long r :: rest)) : jr_J p l e R s m args below meth c A D cl nL cells slots (vx_MQ below (va_Qi postq (jr_B D cl tys wf A) A) (jr_X D cl tys wf A xp) args s MC MS A) ws pc lv st0 := by
  intro H locs ls hP hD hS hl
  subst hst
  have hF : ∀ q, va_A ws H.size q → A q := jr_free hD hS C.2.2.2.2.2.2.1
  refine vx_calll (vx_runS (As := As) (rest := rest) ⟨C.1, C.2.1, C.2.2.1, C.2.2.2.1, C.2.2.2.2.1⟩ (hM H.size) cw ⟨jr_blindX, fun U hU hW => ⟨rfl, ⟨by rw [hU], by rw [hU]; exact hP, va_K.moved hW.alike C.2.2.2.2.2.1, hD.weaken (fun _ _ _ _ => trivial), C.2.2.2.2.2.2.2.warm hW⟩, hZ.at hS hF hU hW.alike, fun q hq => (hss q hq).warm hW⟩⟩ rfl hn hl.1 rfl (lv_room hro) hdg hcl) hS (fun q _ h => hF q h) hF (fun q _ h => hF q h) (fun E ce q9 u t H1 locs1 ht hvm _ hBX hz hk hS1 hce hcv hcl9 => ?_) (fun r u t H1 locs1 ht hvm hw hB hz hk hS1 => ?_)
  · obtain ⟨hxe, hP1, hK1, hD1⟩ := hBX
    rw [ht] at hP1
    exact vx_out (fun x hx => (hnt x hx).elim) hlocks hce hcv hcl9 (fun t' ht' hvm' => ⟨u, trivial, ⟨kx E u hxe, by rw [ht']; exact hP1, va_K.moved hvm' C.2.2.2.2.2.1, hD1.weaken fun _ _ _ h => hF _ h⟩, hS1.F ht'⟩) hS1.2.2 hc hs
  · obtain ⟨hP1, hK1, hD1⟩ := hB
    rw [ht] at hP1
    exact kk r u hw H1 locs1 ls hP1 (hD1.weaken fun _ _ _ h => hF _ h) hS1 hl
theorem jr_callXSll (C : jr_C p s m args c cc nL own Ts D cl tys A) {post : Int64 → S → Prop} {postq : Int64 → S → Prop} {y : MethodName} {wy : List Cond} {rm : Room} {bytes : ByteArray} {maxL index n : Nat} {ret : Option FieldType} {As st0 : List Value} (hlocks : meth.locks = false) (hnt : ∀ x ∈ c.exceptionTable.toList, False) (hZ : jr_Z A s s.heap) (hss : ∀ q ∈ ss', vk_R q.1 q.2.1 q.2.2.1 q.2.2.2 s) (hM : jr_Tl l y wy rm As D cl tys ws ss' wf post xp' mc ms) (cw : CallB R s args own index y bytes maxL ret wy rm mc ms n ∧ (Cond.static y).before args s = true) (hdg : decode cc pc = .ok (.invokestatic index, 3)) (hn : As.length = n) (hst : st0 = As.reverse ++ rest) (hro : (rest.map fun v => v.category).sum ≤ 8) (hcl : cells + mc ≤ R.cells ∧ slots + ms ≤ R.slots) (hc : cells + mc ≤ MC) (hs : slots + ms ≤ MS) (kx : ∀ (E : String) (u : S), xp' E u → xp E u) (kk : ∀ (r : Int64) (u : S), post r u → jr_J p l e R s m args below meth c A D cl nL (cells + mc) (slots + ms) (vx_MQ below (va_Ql postq (jr_B D cl tys wf A) A) (jr_X D cl tys wf A xp) args s MC MS A) (wf u) (pc + 3) lv (.long r :: rest)) : jr_J p l e R s m args below meth c A D cl nL cells slots (vx_MQ below (va_Ql postq (jr_B D cl tys wf A) A) (jr_X D cl tys wf A xp) args s MC MS A) ws pc lv st0 := by
  intro H locs ls hP hD hS hl
  subst hst
  have hF : ∀ q, va_A ws H.size q → A q := jr_free hD hS C.2.2.2.2.2.2.1
  refine vx_calll (vx_runS (As := As) (rest := rest) ⟨C.1, C.2.1, C.2.2.1, C.2.2.2.1, C.2.2.2.2.1⟩ (hM H.size) cw ⟨jr_blindX, fun U hU hW => ⟨rfl, ⟨by rw [hU], by rw [hU]; exact hP, va_K.moved hW.alike C.2.2.2.2.2.1, hD.weaken (fun _ _ _ _ => trivial), C.2.2.2.2.2.2.2.warm hW⟩, hZ.at hS hF hU hW.alike, fun q hq => (hss q hq).warm hW⟩⟩ rfl hn hl.1 rfl (lv_room hro) hdg hcl) hS (fun q _ h => hF q h) hF (fun q _ h => hF q h) (fun E ce q9 u t H1 locs1 ht hvm _ hBX hz hk hS1 hce hcv hcl9 => ?_) (fun r u t H1 locs1 ht hvm hw hB hz hk hS1 => ?_)
  · obtain ⟨hxe, hP1, hK1, hD1⟩ := hBX
    rw [ht] at hP1
    exact vx_out (fun x hx => (hnt x hx).elim) hlocks hce hcv hcl9 (fun t' ht' hvm' => ⟨u, trivial, ⟨kx E u hxe, by rw [ht']; exact hP1, va_K.moved hvm' C.2.2.2.2.2.1, hD1.weaken fun _ _ _ h => hF _ h⟩, hS1.F ht'⟩) hS1.2.2 hc hs
  · obtain ⟨hP1, hK1, hD1⟩ := hB
    rw [ht] at hP1
    exact kk r u hw H1 locs1 ls hP1 (hD1.weaken fun _ _ _ h => hF _ h) hS1 hl
theorem jr_callXSlv (C : jr_C p s m args c cc nL own Ts D cl tys A) {post : Int64 → S → Prop} {postq : S → Prop} {y : MethodName} {wy : List Cond} {rm : Room} {bytes : ByteArray} {maxL index n : Nat} {ret : Option FieldType} {As st0 : List Value} (hlocks : meth.locks = false) (hnt : ∀ x ∈ c.exceptionTable.toList, False) (hZ : jr_Z A s s.heap) (hss : ∀ q ∈ ss', vk_R q.1 q.2.1 q.2.2.1 q.2.2.2 s) (hM : jr_Tl l y wy rm As D cl tys ws ss' wf post xp' mc ms) (cw : CallB R s args own index y bytes maxL ret wy rm mc ms n ∧ (Cond.static y).before args s = true) (hdg : decode cc pc = .ok (.invokestatic index, 3)) (hn : As.length = n) (hst : st0 = As.reverse ++ rest) (hro : (rest.map fun v => v.category).sum ≤ 8) (hcl : cells + mc ≤ R.cells ∧ slots + ms ≤ R.slots) (hc : cells + mc ≤ MC) (hs : slots + ms ≤ MS) (kx : ∀ (E : String) (u : S), xp' E u → xp E u) (kk : ∀ (r : Int64) (u : S), post r u → jr_J p l e R s m args below meth c A D cl nL (cells + mc) (slots + ms) (vx_MQ below (va_Qv postq (jr_B D cl tys wf A) A) (jr_X D cl tys wf A xp) args s MC MS A) (wf u) (pc + 3) lv (.long r :: rest)) : jr_J p l e R s m args below meth c A D cl nL cells slots (vx_MQ below (va_Qv postq (jr_B D cl tys wf A) A) (jr_X D cl tys wf A xp) args s MC MS A) ws pc lv st0 := by
  intro H locs ls hP hD hS hl
  subst hst
  have hF : ∀ q, va_A ws H.size q → A q := jr_free hD hS C.2.2.2.2.2.2.1
  refine vx_calll (vx_runS (As := As) (rest := rest) ⟨C.1, C.2.1, C.2.2.1, C.2.2.2.1, C.2.2.2.2.1⟩ (hM H.size) cw ⟨jr_blindX, fun U hU hW => ⟨rfl, ⟨by rw [hU], by rw [hU]; exact hP, va_K.moved hW.alike C.2.2.2.2.2.1, hD.weaken (fun _ _ _ _ => trivial), C.2.2.2.2.2.2.2.warm hW⟩, hZ.at hS hF hU hW.alike, fun q hq => (hss q hq).warm hW⟩⟩ rfl hn hl.1 rfl (lv_room hro) hdg hcl) hS (fun q _ h => hF q h) hF (fun q _ h => hF q h) (fun E ce q9 u t H1 locs1 ht hvm _ hBX hz hk hS1 hce hcv hcl9 => ?_) (fun r u t H1 locs1 ht hvm hw hB hz hk hS1 => ?_)
  · obtain ⟨hxe, hP1, hK1, hD1⟩ := hBX
    rw [ht] at hP1
    exact vx_out (fun x hx => (hnt x hx).elim) hlocks hce hcv hcl9 (fun t' ht' hvm' => ⟨u, trivial, ⟨kx E u hxe, by rw [ht']; exact hP1, va_K.moved hvm' C.2.2.2.2.2.1, hD1.weaken fun _ _ _ h => hF _ h⟩, hS1.F ht'⟩) hS1.2.2 hc hs
  · obtain ⟨hP1, hK1, hD1⟩ := hB
    rw [ht] at hP1
    exact kk r u hw H1 locs1 ls hP1 (hD1.weaken fun _ _ _ h => hF _ h) hS1 hl
theorem jr_callVNl (C : jr_C p s m args c cc nL own Ts D cl tys A) {post : Int64 → S → Prop} {y : MethodName} {wy : List Cond} {rm : Room} {bytes : ByteArray} {maxL index n : Nat} {ret : Option FieldType} {host : String} {As st0 : List Value} {Cn : String} {T : u_T} {N ci q0 b : Nat} {fs : List Value} (hM : jr_Ml l y wy rm (.ref b :: As) D cl tys ws wf post) (cw : va_CN R s args own index y host bytes maxL ret wy rm 0 0 n ∧ (Cond.instanceMethod y).before args s = true ∧ (Cond.selects Cn y y).before args s = true) (hdg : decode cc pc = .ok (.invokevirtual index, 3)) (hc9 : cl[ci]? = some (Cn, T, N)) (he : ws[q0]? = some (b, .inr (ci, fs))) (hn : As.length = n) (hst : st0 = As.reverse ++ .ref b :: rest) (hro : (rest.map fun v => v.category).sum ≤ 8) (hcl : cells ≤ R.cells ∧ slots ≤ R.slots) (kk : ∀ (r : Int64) (u : S), post r u → jr_J p l e R s m args below meth c A D cl nL cells slots Q (wf u) (pc + 3) lv (.long r :: rest)) : jr_J p l e R s m args below meth c A D cl nL cells slots Q ws pc lv st0 := by
  intro H locs ls hP hD hS hl
  subst hst
  have hF : ∀ q, va_A ws H.size q → A q := jr_free hD hS C.2.2.2.2.2.2.1
  refine va_calll (va_runVN (As := As) (rest := rest) ⟨C.1, C.2.1, C.2.2.1, C.2.2.2.1, C.2.2.2.2.1⟩ (hM H.size) cw ⟨jr_blind, va_recv C.2.2.2.2.2.1 hP hc9 he, fun U hU hW => ⟨rfl, by rw [hU], by rw [hU]; exact hP, va_K.moved hW.alike C.2.2.2.2.2.1, hD.weaken (fun _ _ _ _ => trivial), C.2.2.2.2.2.2.2.warm hW⟩⟩ rfl hn hl.1 rfl (lv_room hro) hdg hcl) hS (fun q _ h => hF q h) hF (fun r u t H1 locs1 ht hvm hw hB hz hk hS1 => ?_)
  obtain ⟨hP1, hK1, hD1⟩ := hB
  rw [ht] at hP1
  exact kk r u hw H1 locs1 ls hP1 (hD1.weaken fun _ _ _ h => hF _ h) hS1 hl
theorem jr_callSNl (C : jr_C p s m args c cc nL own Ts D cl tys A) {post : Int64 → S → Prop} {y : MethodName} {wy : List Cond} {rm : Room} {bytes : ByteArray} {maxL index n : Nat} {ret : Option FieldType} {host : String} {As st0 : List Value} (hM : jr_Ml l y wy rm As D cl tys ws wf post) (cw : va_CN R s args own index y host bytes maxL ret wy rm 0 0 n ∧ (Cond.static y).before args s = true ∧ True) (hdg : decode cc pc = .ok (.invokestatic index, 3)) (hn : As.length = n) (hst : st0 = As.reverse ++ rest) (hro : (rest.map fun v => v.category).sum ≤ 8) (hcl : cells ≤ R.cells ∧ slots ≤ R.slots) (kk : ∀ (r : Int64) (u : S), post r u → jr_J p l e R s m args below meth c A D cl nL cells slots Q (wf u) (pc + 3) lv (.long r :: rest)) : jr_J p l e R s m args below meth c A D cl nL cells slots Q ws pc lv st0 := by
  intro H locs ls hP hD hS hl
  subst hst
  have hF : ∀ q, va_A ws H.size q → A q := jr_free hD hS C.2.2.2.2.2.2.1
  refine va_calll (va_runSN (As := As) (rest := rest) ⟨C.1, C.2.1, C.2.2.1, C.2.2.2.1, C.2.2.2.2.1⟩ (hM H.size) cw ⟨jr_blind, fun U hU hW => ⟨rfl, by rw [hU], by rw [hU]; exact hP, va_K.moved hW.alike C.2.2.2.2.2.1, hD.weaken (fun _ _ _ _ => trivial), C.2.2.2.2.2.2.2.warm hW⟩⟩ rfl hn hl.1 rfl (lv_room hro) hdg hcl) hS (fun q _ h => hF q h) hF (fun r u t H1 locs1 ht hvm hw hB hz hk hS1 => ?_)
  obtain ⟨hP1, hK1, hD1⟩ := hB
  rw [ht] at hP1
  exact kk r u hw H1 locs1 ls hP1 (hD1.weaken fun _ _ _ h => hF _ h) hS1 hl
theorem jr_retv (C : jr_C p s m args c cc nL own Ts D cl tys A) {post : S → Prop} {u : S}  (hr : meth.sig.returnType = none) (hlocks : meth.locks = false) (hdg : decode cc pc = .ok (.return_, 1)) (hp : post u) (hw : ws = wf u) : jr_J p l e R s m args below meth c A D cl nL cells slots (MQ below (va_Qv post (jr_B D cl tys wf A) A) args s cells slots A) ws pc lv [] := by
  subst hw
  intro H locs ls hP hD hS hl
  exact W.vret C.1 C.2.1 hr (fun t ht hW => ⟨⟨u, rfl, hp, by rw [ht]; exact hP, va_K.moved hW.alike C.2.2.2.2.2.1, hD⟩, hS.F ht⟩) hS.2.2 hdg hlocks
theorem jr_retXv (C : jr_C p s m args c cc nL own Ts D cl tys A) {post : S → Prop} {u : S}  (hr : meth.sig.returnType = none) (hlocks : meth.locks = false) (hdg : decode cc pc = .ok (.return_, 1)) (hc : cells ≤ MC) (hs : slots ≤ MS) (hp : post u) (hw : ws = wf u) : jr_J p l e R s m args below meth c A D cl nL cells slots (vx_MQ below (va_Qv post (jr_B D cl tys wf A) A) (jr_X D cl tys wf A xp) args s MC MS A) ws pc lv [] := by
  subst hw
  intro H locs ls hP hD hS hl
  refine W.widen (k := MC) (n := MS) hc hs ?_
  exact vx_ret (W.vret C.1 C.2.1 hr (fun t ht hW => ⟨⟨u, rfl, hp, by rw [ht]; exact hP, va_K.moved hW.alike C.2.2.2.2.2.1, hD⟩, hS.F ht⟩) hS.2.2 hdg hlocks)
theorem jr_ofv {y : MethodName} {wy wy' : List Cond} {rm : Room} {av : List Value} {post : S → Prop} (hy : plainName y.cls = true) (hw : wy = Cond.code y cc nL (none) :: wy') (hav : (lg_sl av).length ≤ nL) (hlv : lv_args 0 av = lv)
    (body : ∀ (p : Program) (e : Env) (s : State) (m : MethodId) (args : Array Value) (below : List Frame) (meth : Method) (c : Code) (A : Nat → Prop), jr_C p s m args c cc nL y.cls wy D cl tys A → meth.sig.returnType = none → meth.locks = false → jr_J p l e (headSpec wy rm).room s m args below meth c A D cl nL 0 0 (MQ below (va_Qv post (jr_B D cl tys wf A) A) args s 0 0 A) ws 0 lv []) : jr_Mv l y wy rm av D cl tys ws wf post := by
  intro sz
  refine Met.ofW hy hw ?_
  intro p e s m args below meth c s₁ B hml hv
  obtain ⟨rfl, hsz, hP, hK, hD0, hN⟩ := hv
  subst hsz
  have hl := lv_entry av hav
  rw [hlv] at hl
  rw [lg_entry_eq]
  exact body p e s m _ below meth c (va_A ws s.heap.size) ⟨B.exec, B.bytes, hml, findClass_of_methodNamed B.named, atoms_spec (ws := wy) B.pre, hK, fun q h => Or.inr h, hN⟩ B.returns B.notSynchronized s.heap [] _ hP hD0.self va_S.rf hl
theorem jr_ofFv {y : MethodName} {wy wy' : List Cond} {rm : Room} {av : List Value} {post : S → Prop} (hy : plainFor y = true) (hw : wy = Cond.code y cc nL (none) :: wy') (hav : (lg_sl av).length ≤ nL) (hlv : lv_args 0 av = lv)
    (body : ∀ (p : Program) (e : Env) (s : State) (m : MethodId) (args : Array Value) (below : List Frame) (meth : Method) (c : Code) (A : Nat → Prop), jr_C p s m args c cc nL y.cls wy D cl tys A → meth.sig.returnType = none → meth.locks = false → jr_J p l e (headSpec wy rm).room s m args below meth c A D cl nL 0 0 (MQ below (va_Qv post (jr_B D cl tys wf A) A) args s 0 0 A) ws 0 lv []) : jr_Mv l y wy rm av D cl tys ws wf post := by
  intro sz
  refine va_MetF hy hw ?_
  intro p e s m args below meth c s₁ B hml hv
  obtain ⟨rfl, hsz, hP, hK, hD0, hN⟩ := hv
  subst hsz
  have hl := lv_entry av hav
  rw [hlv] at hl
  rw [lg_entry_eq]
  exact body p e s m _ below meth c (va_A ws s.heap.size) ⟨B.exec, B.bytes, hml, findClass_of_methodNamed B.named, atoms_spec (ws := wy) B.pre, hK, fun q h => Or.inr h, hN⟩ B.returns B.notSynchronized s.heap [] _ hP hD0.self va_S.rf hl
theorem jr_ofXv {y : MethodName} {wy wy' : List Cond} {rm : Room} {av : List Value} {post : S → Prop} (hy : plainName y.cls = true) (hw : wy = Cond.code y cc nL (none) :: wy') (hav : (lg_sl av).length ≤ nL) (hlv : lv_args 0 av = lv)
    (body : ∀ (p : Program) (e : Env) (s : State) (m : MethodId) (args : Array Value) (below : List Frame) (meth : Method) (c : Code) (A : Nat → Prop), jr_C p s m args c cc nL y.cls wy D cl tys A → meth.sig.returnType = none → meth.locks = false → (∀ x ∈ c.exceptionTable.toList, False) → jr_Z A s s.heap → (∀ q ∈ ss, vk_R q.1 q.2.1 q.2.2.1 q.2.2.2 s) → jr_J p l e (headSpec wy rm).room s m args below meth c A D cl nL 0 0 (vx_MQ below (va_Qv post (jr_B D cl tys wf A) A) (jr_X D cl tys wf A xp) args s mc ms A) ws 0 lv []) : jr_Tv l y wy rm av D cl tys ws ss wf post xp mc ms := by
  intro sz
  refine vx_ofW hy hw ?_
  intro p e s m args below meth c s₁ B hml hnt hv
  obtain ⟨rfl, ⟨hsz, hP, hK, hD0, hN⟩, hZ, hs9⟩ := hv
  subst hsz
  have hl := lv_entry av hav
  rw [hlv] at hl
  rw [lg_entry_eq]
  exact body p e s m _ below meth c (va_A ws s.heap.size) ⟨B.exec, B.bytes, hml, findClass_of_methodNamed B.named, atoms_spec (ws := wy) B.pre, hK, fun q h => Or.inr h, hN⟩ B.returns B.notSynchronized hnt hZ hs9 s.heap [] _ hP hD0.self va_S.rf hl
theorem jr_callVv (C : jr_C p s m args c cc nL own Ts D cl tys A) {post : S → Prop} {y : MethodName} {wy : List Cond} {rm : Room} {bytes : ByteArray} {maxL index n : Nat} {ret : Option FieldType} {As st0 : List Value} {Cn : String} {T : u_T} {N ci q0 b : Nat} {fs : List Value} (hM : jr_Mv l y wy rm (.ref b :: As) D cl tys ws wf post) (cw : CallW R s args own Cn index y bytes maxL ret wy rm 0 0 n) (hdg : decode cc pc = .ok (.invokevirtual index, 3)) (hc9 : cl[ci]? = some (Cn, T, N)) (he : ws[q0]? = some (b, .inr (ci, fs))) (hn : As.length = n) (hst : st0 = As.reverse ++ .ref b :: rest) (hro : (rest.map fun v => v.category).sum ≤ 8) (hcl : cells ≤ R.cells ∧ slots ≤ R.slots) (kk : ∀ u : S, post u → jr_J p l e R s m args below meth c A D cl nL cells slots Q (wf u) (pc + 3) lv rest) : jr_J p l e R s m args below meth c A D cl nL cells slots Q ws pc lv st0 := by
  intro H locs ls hP hD hS hl
  subst hst
  have hF : ∀ q, va_A ws H.size q → A q := jr_free hD hS C.2.2.2.2.2.2.1
  refine va_callv (va_runV (As := As) (rest := rest) ⟨C.1, C.2.1, C.2.2.1, C.2.2.2.1, C.2.2.2.2.1⟩ (hM H.size) cw ⟨jr_blind, va_recv C.2.2.2.2.2.1 hP hc9 he, fun U hU hW => ⟨rfl, by rw [hU], by rw [hU]; exact hP, va_K.moved hW.alike C.2.2.2.2.2.1, hD.weaken (fun _ _ _ _ => trivial), C.2.2.2.2.2.2.2.warm hW⟩⟩ rfl hn hl.1 rfl (lv_room hro) hdg hcl) hS (fun q _ h => hF q h) hF (fun u t H1 locs1 ht hvm hw hB hz hk hS1 => ?_)
  obtain ⟨hP1, hK1, hD1⟩ := hB
  rw [ht] at hP1
  exact kk u hw H1 locs1 ls hP1 (hD1.weaken fun _ _ _ h => hF _ h) hS1 hl
theorem jr_callXVvi (C : jr_C p s m args c cc nL own Ts D cl tys A) {post : S → Prop} {postq : Int32 → S → Prop} {y : MethodName} {wy : List Cond} {rm : Room} {bytes : ByteArray} {maxL index n : Nat} {ret : Option FieldType} {As st0 : List Value} {Cn : String} {T : u_T} {N ci q0 b : Nat} {fs : List Value} (hlocks : meth.locks = false) (hnt : ∀ x ∈ c.exceptionTable.toList, False) (hZ : jr_Z A s s.heap) (hss : ∀ q ∈ ss', vk_R q.1 q.2.1 q.2.2.1 q.2.2.2 s) (hM : jr_Tv l y wy rm (.ref b :: As) D cl tys ws ss' wf post xp' mc ms) (cw : CallW R s args own Cn index y bytes maxL ret wy rm mc ms n) (hdg : decode cc pc = .ok (.invokevirtual index, 3)) (hc9 : cl[ci]? = some (Cn, T, N)) (he : ws[q0]? = some (b, .inr (ci, fs))) (hn : As.length = n) (hst : st0 = As.reverse ++ .ref b :: rest) (hro : (rest.map fun v => v.category).sum ≤ 8) (hcl : cells + mc ≤ R.cells ∧ slots + ms ≤ R.slots) (hc : cells + mc ≤ MC) (hs : slots + ms ≤ MS) (kx : ∀ (E : String) (u : S), xp' E u → xp E u) (kk : ∀ u : S, post u → jr_J p l e R s m args below meth c A D cl nL (cells + mc) (slots + ms) (vx_MQ below (va_Qi postq (jr_B D cl tys wf A) A) (jr_X D cl tys wf A xp) args s MC MS A) (wf u) (pc + 3) lv rest) : jr_J p l e R s m args below meth c A D cl nL cells slots (vx_MQ below (va_Qi postq (jr_B D cl tys wf A) A) (jr_X D cl tys wf A xp) args s MC MS A) ws pc lv st0 := by
  intro H locs ls hP hD hS hl
  subst hst
  have hF : ∀ q, va_A ws H.size q → A q := jr_free hD hS C.2.2.2.2.2.2.1
  refine vx_callv (vx_runV (As := As) (rest := rest) ⟨C.1, C.2.1, C.2.2.1, C.2.2.2.1, C.2.2.2.2.1⟩ (hM H.size) cw ⟨jr_blindX, va_recv C.2.2.2.2.2.1 hP hc9 he, fun U hU hW => ⟨rfl, ⟨by rw [hU], by rw [hU]; exact hP, va_K.moved hW.alike C.2.2.2.2.2.1, hD.weaken (fun _ _ _ _ => trivial), C.2.2.2.2.2.2.2.warm hW⟩, hZ.at hS hF hU hW.alike, fun q hq => (hss q hq).warm hW⟩⟩ rfl hn hl.1 rfl (lv_room hro) hdg hcl) hS (fun q _ h => hF q h) hF (fun q _ h => hF q h) (fun E ce q9 u t H1 locs1 ht hvm _ hBX hz hk hS1 hce hcv hcl9 => ?_) (fun u t H1 locs1 ht hvm hw hB hz hk hS1 => ?_)
  · obtain ⟨hxe, hP1, hK1, hD1⟩ := hBX
    rw [ht] at hP1
    exact vx_out (fun x hx => (hnt x hx).elim) hlocks hce hcv hcl9 (fun t' ht' hvm' => ⟨u, trivial, ⟨kx E u hxe, by rw [ht']; exact hP1, va_K.moved hvm' C.2.2.2.2.2.1, hD1.weaken fun _ _ _ h => hF _ h⟩, hS1.F ht'⟩) hS1.2.2 hc hs
  · obtain ⟨hP1, hK1, hD1⟩ := hB
    rw [ht] at hP1
    exact kk u hw H1 locs1 ls hP1 (hD1.weaken fun _ _ _ h => hF _ h) hS1 hl
theorem jr_callXVvl (C : jr_C p s m args c cc nL own Ts D cl tys A) {post : S → Prop} {postq : Int64 → S → Prop} {y : MethodName} {wy : List Cond} {rm : Room} {bytes : ByteArray} {maxL index n : Nat} {ret : Option FieldType} {As st0 : List Value} {Cn : String} {T : u_T} {N ci q0 b : Nat} {fs : List Value} (hlocks : meth.locks = false) (hnt : ∀ x ∈ c.exceptionTable.toList, False) (hZ : jr_Z A s s.heap) (hss : ∀ q ∈ ss', vk_R q.1 q.2.1 q.2.2.1 q.2.2.2 s) (hM : jr_Tv l y wy rm (.ref b :: As) D cl tys ws ss' wf post xp' mc ms) (cw : CallW R s args own Cn index y bytes maxL ret wy rm mc ms n) (hdg : decode cc pc = .ok (.invokevirtual index, 3)) (hc9 : cl[ci]? = some (Cn, T, N)) (he : ws[q0]? = some (b, .inr (ci, fs))) (hn : As.length = n) (hst : st0 = As.reverse ++ .ref b :: rest) (hro : (rest.map fun v => v.category).sum ≤ 8) (hcl : cells + mc ≤ R.cells ∧ slots + ms ≤ R.slots) (hc : cells + mc ≤ MC) (hs : slots + ms ≤ MS) (kx : ∀ (E : String) (u : S), xp' E u → xp E u) (kk : ∀ u : S, post u → jr_J p l e R s m args below meth c A D cl nL (cells + mc) (slots + ms) (vx_MQ below (va_Ql postq (jr_B D cl tys wf A) A) (jr_X D cl tys wf A xp) args s MC MS A) (wf u) (pc + 3) lv rest) : jr_J p l e R s m args below meth c A D cl nL cells slots (vx_MQ below (va_Ql postq (jr_B D cl tys wf A) A) (jr_X D cl tys wf A xp) args s MC MS A) ws pc lv st0 := by
  intro H locs ls hP hD hS hl
  subst hst
  have hF : ∀ q, va_A ws H.size q → A q := jr_free hD hS C.2.2.2.2.2.2.1
  refine vx_callv (vx_runV (As := As) (rest := rest) ⟨C.1, C.2.1, C.2.2.1, C.2.2.2.1, C.2.2.2.2.1⟩ (hM H.size) cw ⟨jr_blindX, va_recv C.2.2.2.2.2.1 hP hc9 he, fun U hU hW => ⟨rfl, ⟨by rw [hU], by rw [hU]; exact hP, va_K.moved hW.alike C.2.2.2.2.2.1, hD.weaken (fun _ _ _ _ => trivial), C.2.2.2.2.2.2.2.warm hW⟩, hZ.at hS hF hU hW.alike, fun q hq => (hss q hq).warm hW⟩⟩ rfl hn hl.1 rfl (lv_room hro) hdg hcl) hS (fun q _ h => hF q h) hF (fun q _ h => hF q h) (fun E ce q9 u t H1 locs1 ht hvm _ hBX hz hk hS1 hce hcv hcl9 => ?_) (fun u t H1 locs1 ht hvm hw hB hz hk hS1 => ?_)
  · obtain ⟨hxe, hP1, hK1, hD1⟩ := hBX
    rw [ht] at hP1
    exact vx_out (fun x hx => (hnt x hx).elim) hlocks hce hcv hcl9 (fun t' ht' hvm' => ⟨u, trivial, ⟨kx E u hxe, by rw [ht']; exact hP1, va_K.moved hvm' C.2.2.2.2.2.1, hD1.weaken fun _ _ _ h => hF _ h⟩, hS1.F ht'⟩) hS1.2.2 hc hs
  · obtain ⟨hP1, hK1, hD1⟩ := hB
    rw [ht] at hP1
    exact kk u hw H1 locs1 ls hP1 (hD1.weaken fun _ _ _ h => hF _ h) hS1 hl
theorem jr_callXVvv (C : jr_C p s m args c cc nL own Ts D cl tys A) {post : S → Prop} {postq : S → Prop} {y : MethodName} {wy : List Cond} {rm : Room} {bytes : ByteArray} {maxL index n : Nat} {ret : Option FieldType} {As st0 : List Value} {Cn : String} {T : u_T} {N ci q0 b : Nat} {fs : List Value} (hlocks : meth.locks = false) (hnt : ∀ x ∈ c.exceptionTable.toList, False) (hZ : jr_Z A s s.heap) (hss : ∀ q ∈ ss', vk_R q.1 q.2.1 q.2.2.1 q.2.2.2 s) (hM : jr_Tv l y wy rm (.ref b :: As) D cl tys ws ss' wf post xp' mc ms) (cw : CallW R s args own Cn index y bytes maxL ret wy rm mc ms n) (hdg : decode cc pc = .ok (.invokevirtual index, 3)) (hc9 : cl[ci]? = some (Cn, T, N)) (he : ws[q0]? = some (b, .inr (ci, fs))) (hn : As.length = n) (hst : st0 = As.reverse ++ .ref b :: rest) (hro : (rest.map fun v => v.category).sum ≤ 8) (hcl : cells + mc ≤ R.cells ∧ slots + ms ≤ R.slots) (hc : cells + mc ≤ MC) (hs : slots + ms ≤ MS) (kx : ∀ (E : String) (u : S), xp' E u → xp E u) (kk : ∀ u : S, post u → jr_J p l e R s m args below meth c A D cl nL (cells + mc) (slots + ms) (vx_MQ below (va_Qv postq (jr_B D cl tys wf A) A) (jr_X D cl tys wf A xp) args s MC MS A) (wf u) (pc + 3) lv rest) : jr_J p l e R s m args below meth c A D cl nL cells slots (vx_MQ below (va_Qv postq (jr_B D cl tys wf A) A) (jr_X D cl tys wf A xp) args s MC MS A) ws pc lv st0 := by
  intro H locs ls hP hD hS hl
  subst hst
  have hF : ∀ q, va_A ws H.size q → A q := jr_free hD hS C.2.2.2.2.2.2.1
  refine vx_callv (vx_runV (As := As) (rest := rest) ⟨C.1, C.2.1, C.2.2.1, C.2.2.2.1, C.2.2.2.2.1⟩ (hM H.size) cw ⟨jr_blindX, va_recv C.2.2.2.2.2.1 hP hc9 he, fun U hU hW => ⟨rfl, ⟨by rw [hU], by rw [hU]; exact hP, va_K.moved hW.alike C.2.2.2.2.2.1, hD.weaken (fun _ _ _ _ => trivial), C.2.2.2.2.2.2.2.warm hW⟩, hZ.at hS hF hU hW.alike, fun q hq => (hss q hq).warm hW⟩⟩ rfl hn hl.1 rfl (lv_room hro) hdg hcl) hS (fun q _ h => hF q h) hF (fun q _ h => hF q h) (fun E ce q9 u t H1 locs1 ht hvm _ hBX hz hk hS1 hce hcv hcl9 => ?_) (fun u t H1 locs1 ht hvm hw hB hz hk hS1 => ?_)
  · obtain ⟨hxe, hP1, hK1, hD1⟩ := hBX
    rw [ht] at hP1
    exact vx_out (fun x hx => (hnt x hx).elim) hlocks hce hcv hcl9 (fun t' ht' hvm' => ⟨u, trivial, ⟨kx E u hxe, by rw [ht']; exact hP1, va_K.moved hvm' C.2.2.2.2.2.1, hD1.weaken fun _ _ _ h => hF _ h⟩, hS1.F ht'⟩) hS1.2.2 hc hs
  · obtain ⟨hP1, hK1, hD1⟩ := hB
    rw [ht] at hP1
    exact kk u hw H1 locs1 ls hP1 (hD1.weaken fun _ _ _ h => hF _ h) hS1 hl
theorem jr_callSv (C : jr_C p s m args c cc nL own Ts D cl tys A) {post : S → Prop} {y : MethodName} {wy : List Cond} {rm : Room} {bytes : ByteArray} {maxL index n : Nat} {ret : Option FieldType} {As st0 : List Value} (hM : jr_Mv l y wy rm As D cl tys ws wf post) (cw : CallB R s args own index y bytes maxL ret wy rm 0 0 n ∧ (Cond.static y).before args s = true) (hdg : decode cc pc = .ok (.invokestatic index, 3)) (hn : As.length = n) (hst : st0 = As.reverse ++ rest) (hro : (rest.map fun v => v.category).sum ≤ 8) (hcl : cells ≤ R.cells ∧ slots ≤ R.slots) (kk : ∀ u : S, post u → jr_J p l e R s m args below meth c A D cl nL cells slots Q (wf u) (pc + 3) lv rest) : jr_J p l e R s m args below meth c A D cl nL cells slots Q ws pc lv st0 := by
  intro H locs ls hP hD hS hl
  subst hst
  have hF : ∀ q, va_A ws H.size q → A q := jr_free hD hS C.2.2.2.2.2.2.1
  refine va_callv (va_runS (As := As) (rest := rest) ⟨C.1, C.2.1, C.2.2.1, C.2.2.2.1, C.2.2.2.2.1⟩ (hM H.size) cw ⟨jr_blind, fun U hU hW => ⟨rfl, by rw [hU], by rw [hU]; exact hP, va_K.moved hW.alike C.2.2.2.2.2.1, hD.weaken (fun _ _ _ _ => trivial), C.2.2.2.2.2.2.2.warm hW⟩⟩ rfl hn hl.1 rfl (lv_room hro) hdg hcl) hS (fun q _ h => hF q h) hF (fun u t H1 locs1 ht hvm hw hB hz hk hS1 => ?_)
  obtain ⟨hP1, hK1, hD1⟩ := hB
  rw [ht] at hP1
  exact kk u hw H1 locs1 ls hP1 (hD1.weaken fun _ _ _ h => hF _ h) hS1 hl
theorem jr_callXSvi (C : jr_C p s m args c cc nL own Ts D cl tys A) {post : S → Prop} {postq : Int32 → S → Prop} {y : MethodName} {wy : List Cond} {rm : Room} {bytes : ByteArray} {maxL index n : Nat} {ret : Option FieldType} {As st0 : List Value} (hlocks : meth.locks = false) (hnt : ∀ x ∈ c.exceptionTable.toList, False) (hZ : jr_Z A s s.heap) (hss : ∀ q ∈ ss', vk_R q.1 q.2.1 q.2.2.1 q.2.2.2 s) (hM : jr_Tv l y wy rm As D cl tys ws ss' wf post xp' mc ms) (cw : CallB R s args own index y bytes maxL ret wy rm mc ms n ∧ (Cond.static y).before args s = true) (hdg : decode cc pc = .ok (.invokestatic index, 3)) (hn : As.length = n) (hst : st0 = As.reverse ++ rest) (hro : (rest.map fun v => v.category).sum ≤ 8) (hcl : cells + mc ≤ R.cells ∧ slots + ms ≤ R.slots) (hc : cells + mc ≤ MC) (hs : slots + ms ≤ MS) (kx : ∀ (E : String) (u : S), xp' E u → xp E u) (kk : ∀ u : S, post u → jr_J p l e R s m args below meth c A D cl nL (cells + mc) (slots + ms) (vx_MQ below (va_Qi postq (jr_B D cl tys wf A) A) (jr_X D cl tys wf A xp) args s MC MS A) (wf u) (pc + 3) lv rest) : jr_J p l e R s m args below meth c A D cl nL cells slots (vx_MQ below (va_Qi postq (jr_B D cl tys wf A) A) (jr_X D cl tys wf A xp) args s MC MS A) ws pc lv st0 := by
  intro H locs ls hP hD hS hl
  subst hst
  have hF : ∀ q, va_A ws H.size q → A q := jr_free hD hS C.2.2.2.2.2.2.1
  refine vx_callv (vx_runS (As := As) (rest := rest) ⟨C.1, C.2.1, C.2.2.1, C.2.2.2.1, C.2.2.2.2.1⟩ (hM H.size) cw ⟨jr_blindX, fun U hU hW => ⟨rfl, ⟨by rw [hU], by rw [hU]; exact hP, va_K.moved hW.alike C.2.2.2.2.2.1, hD.weaken (fun _ _ _ _ => trivial), C.2.2.2.2.2.2.2.warm hW⟩, hZ.at hS hF hU hW.alike, fun q hq => (hss q hq).warm hW⟩⟩ rfl hn hl.1 rfl (lv_room hro) hdg hcl) hS (fun q _ h => hF q h) hF (fun q _ h => hF q h) (fun E ce q9 u t H1 locs1 ht hvm _ hBX hz hk hS1 hce hcv hcl9 => ?_) (fun u t H1 locs1 ht hvm hw hB hz hk hS1 => ?_)
  · obtain ⟨hxe, hP1, hK1, hD1⟩ := hBX
    rw [ht] at hP1
    exact vx_out (fun x hx => (hnt x hx).elim) hlocks hce hcv hcl9 (fun t' ht' hvm' => ⟨u, trivial, ⟨kx E u hxe, by rw [ht']; exact hP1, va_K.moved hvm' C.2.2.2.2.2.1, hD1.weaken fun _ _ _ h => hF _ h⟩, hS1.F ht'⟩) hS1.2.2 hc hs
  · obtain ⟨hP1, hK1, hD1⟩ := hB
    rw [ht] at hP1
    exact kk u hw H1 locs1 ls hP1 (hD1.weaken fun _ _ _ h => hF _ h) hS1 hl
theorem jr_callXSvl (C : jr_C p s m args c cc nL own Ts D cl tys A) {post : S → Prop} {postq : Int64 → S → Prop} {y : MethodName} {wy : List Cond} {rm : Room} {bytes : ByteArray} {maxL index n : Nat} {ret : Option FieldType} {As st0 : List Value} (hlocks : meth.locks = false) (hnt : ∀ x ∈ c.exceptionTable.toList, False) (hZ : jr_Z A s s.heap) (hss : ∀ q ∈ ss', vk_R q.1 q.2.1 q.2.2.1 q.2.2.2 s) (hM : jr_Tv l y wy rm As D cl tys ws ss' wf post xp' mc ms) (cw : CallB R s args own index y bytes maxL ret wy rm mc ms n ∧ (Cond.static y).before args s = true) (hdg : decode cc pc = .ok (.invokestatic index, 3)) (hn : As.length = n) (hst : st0 = As.reverse ++ rest) (hro : (rest.map fun v => v.category).sum ≤ 8) (hcl : cells + mc ≤ R.cells ∧ slots + ms ≤ R.slots) (hc : cells + mc ≤ MC) (hs : slots + ms ≤ MS) (kx : ∀ (E : String) (u : S), xp' E u → xp E u) (kk : ∀ u : S, post u → jr_J p l e R s m args below meth c A D cl nL (cells + mc) (slots + ms) (vx_MQ below (va_Ql postq (jr_B D cl tys wf A) A) (jr_X D cl tys wf A xp) args s MC MS A) (wf u) (pc + 3) lv rest) : jr_J p l e R s m args below meth c A D cl nL cells slots (vx_MQ below (va_Ql postq (jr_B D cl tys wf A) A) (jr_X D cl tys wf A xp) args s MC MS A) ws pc lv st0 := by
  intro H locs ls hP hD hS hl
  subst hst
  have hF : ∀ q, va_A ws H.size q → A q := jr_free hD hS C.2.2.2.2.2.2.1
  refine vx_callv (vx_runS (As := As) (rest := rest) ⟨C.1, C.2.1, C.2.2.1, C.2.2.2.1, C.2.2.2.2.1⟩ (hM H.size) cw ⟨jr_blindX, fun U hU hW => ⟨rfl, ⟨by rw [hU], by rw [hU]; exact hP, va_K.moved hW.alike C.2.2.2.2.2.1, hD.weaken (fun _ _ _ _ => trivial), C.2.2.2.2.2.2.2.warm hW⟩, hZ.at hS hF hU hW.alike, fun q hq => (hss q hq).warm hW⟩⟩ rfl hn hl.1 rfl (lv_room hro) hdg hcl) hS (fun q _ h => hF q h) hF (fun q _ h => hF q h) (fun E ce q9 u t H1 locs1 ht hvm _ hBX hz hk hS1 hce hcv hcl9 => ?_) (fun u t H1 locs1 ht hvm hw hB hz hk hS1 => ?_)
  · obtain ⟨hxe, hP1, hK1, hD1⟩ := hBX
    rw [ht] at hP1
    exact vx_out (fun x hx => (hnt x hx).elim) hlocks hce hcv hcl9 (fun t' ht' hvm' => ⟨u, trivial, ⟨kx E u hxe, by rw [ht']; exact hP1, va_K.moved hvm' C.2.2.2.2.2.1, hD1.weaken fun _ _ _ h => hF _ h⟩, hS1.F ht'⟩) hS1.2.2 hc hs
  · obtain ⟨hP1, hK1, hD1⟩ := hB
    rw [ht] at hP1
    exact kk u hw H1 locs1 ls hP1 (hD1.weaken fun _ _ _ h => hF _ h) hS1 hl
theorem jr_callXSvv (C : jr_C p s m args c cc nL own Ts D cl tys A) {post : S → Prop} {postq : S → Prop} {y : MethodName} {wy : List Cond} {rm : Room} {bytes : ByteArray} {maxL index n : Nat} {ret : Option FieldType} {As st0 : List Value} (hlocks : meth.locks = false) (hnt : ∀ x ∈ c.exceptionTable.toList, False) (hZ : jr_Z A s s.heap) (hss : ∀ q ∈ ss', vk_R q.1 q.2.1 q.2.2.1 q.2.2.2 s) (hM : jr_Tv l y wy rm As D cl tys ws ss' wf post xp' mc ms) (cw : CallB R s args own index y bytes maxL ret wy rm mc ms n ∧ (Cond.static y).before args s = true) (hdg : decode cc pc = .ok (.invokestatic index, 3)) (hn : As.length = n) (hst : st0 = As.reverse ++ rest) (hro : (rest.map fun v => v.category).sum ≤ 8) (hcl : cells + mc ≤ R.cells ∧ slots + ms ≤ R.slots) (hc : cells + mc ≤ MC) (hs : slots + ms ≤ MS) (kx : ∀ (E : String) (u : S), xp' E u → xp E u) (kk : ∀ u : S, post u → jr_J p l e R s m args below meth c A D cl nL (cells + mc) (slots + ms) (vx_MQ below (va_Qv postq (jr_B D cl tys wf A) A) (jr_X D cl tys wf A xp) args s MC MS A) (wf u) (pc + 3) lv rest) : jr_J p l e R s m args below meth c A D cl nL cells slots (vx_MQ below (va_Qv postq (jr_B D cl tys wf A) A) (jr_X D cl tys wf A xp) args s MC MS A) ws pc lv st0 := by
  intro H locs ls hP hD hS hl
  subst hst
  have hF : ∀ q, va_A ws H.size q → A q := jr_free hD hS C.2.2.2.2.2.2.1
  refine vx_callv (vx_runS (As := As) (rest := rest) ⟨C.1, C.2.1, C.2.2.1, C.2.2.2.1, C.2.2.2.2.1⟩ (hM H.size) cw ⟨jr_blindX, fun U hU hW => ⟨rfl, ⟨by rw [hU], by rw [hU]; exact hP, va_K.moved hW.alike C.2.2.2.2.2.1, hD.weaken (fun _ _ _ _ => trivial), C.2.2.2.2.2.2.2.warm hW⟩, hZ.at hS hF hU hW.alike, fun q hq => (hss q hq).warm hW⟩⟩ rfl hn hl.1 rfl (lv_room hro) hdg hcl) hS (fun q _ h => hF q h) hF (fun q _ h => hF q h) (fun E ce q9 u t H1 locs1 ht hvm _ hBX hz hk hS1 hce hcv hcl9 => ?_) (fun u t H1 locs1 ht hvm hw hB hz hk hS1 => ?_)
  · obtain ⟨hxe, hP1, hK1, hD1⟩ := hBX
    rw [ht] at hP1
    exact vx_out (fun x hx => (hnt x hx).elim) hlocks hce hcv hcl9 (fun t' ht' hvm' => ⟨u, trivial, ⟨kx E u hxe, by rw [ht']; exact hP1, va_K.moved hvm' C.2.2.2.2.2.1, hD1.weaken fun _ _ _ h => hF _ h⟩, hS1.F ht'⟩) hS1.2.2 hc hs
  · obtain ⟨hP1, hK1, hD1⟩ := hB
    rw [ht] at hP1
    exact kk u hw H1 locs1 ls hP1 (hD1.weaken fun _ _ _ h => hF _ h) hS1 hl
theorem jr_callVNv (C : jr_C p s m args c cc nL own Ts D cl tys A) {post : S → Prop} {y : MethodName} {wy : List Cond} {rm : Room} {bytes : ByteArray} {maxL index n : Nat} {ret : Option FieldType} {host : String} {As st0 : List Value} {Cn : String} {T : u_T} {N ci q0 b : Nat} {fs : List Value} (hM : jr_Mv l y wy rm (.ref b :: As) D cl tys ws wf post) (cw : va_CN R s args own index y host bytes maxL ret wy rm 0 0 n ∧ (Cond.instanceMethod y).before args s = true ∧ (Cond.selects Cn y y).before args s = true) (hdg : decode cc pc = .ok (.invokevirtual index, 3)) (hc9 : cl[ci]? = some (Cn, T, N)) (he : ws[q0]? = some (b, .inr (ci, fs))) (hn : As.length = n) (hst : st0 = As.reverse ++ .ref b :: rest) (hro : (rest.map fun v => v.category).sum ≤ 8) (hcl : cells ≤ R.cells ∧ slots ≤ R.slots) (kk : ∀ u : S, post u → jr_J p l e R s m args below meth c A D cl nL cells slots Q (wf u) (pc + 3) lv rest) : jr_J p l e R s m args below meth c A D cl nL cells slots Q ws pc lv st0 := by
  intro H locs ls hP hD hS hl
  subst hst
  have hF : ∀ q, va_A ws H.size q → A q := jr_free hD hS C.2.2.2.2.2.2.1
  refine va_callv (va_runVN (As := As) (rest := rest) ⟨C.1, C.2.1, C.2.2.1, C.2.2.2.1, C.2.2.2.2.1⟩ (hM H.size) cw ⟨jr_blind, va_recv C.2.2.2.2.2.1 hP hc9 he, fun U hU hW => ⟨rfl, by rw [hU], by rw [hU]; exact hP, va_K.moved hW.alike C.2.2.2.2.2.1, hD.weaken (fun _ _ _ _ => trivial), C.2.2.2.2.2.2.2.warm hW⟩⟩ rfl hn hl.1 rfl (lv_room hro) hdg hcl) hS (fun q _ h => hF q h) hF (fun u t H1 locs1 ht hvm hw hB hz hk hS1 => ?_)
  obtain ⟨hP1, hK1, hD1⟩ := hB
  rw [ht] at hP1
  exact kk u hw H1 locs1 ls hP1 (hD1.weaken fun _ _ _ h => hF _ h) hS1 hl
theorem jr_callSNv (C : jr_C p s m args c cc nL own Ts D cl tys A) {post : S → Prop} {y : MethodName} {wy : List Cond} {rm : Room} {bytes : ByteArray} {maxL index n : Nat} {ret : Option FieldType} {host : String} {As st0 : List Value} (hM : jr_Mv l y wy rm As D cl tys ws wf post) (cw : va_CN R s args own index y host bytes maxL ret wy rm 0 0 n ∧ (Cond.static y).before args s = true ∧ True) (hdg : decode cc pc = .ok (.invokestatic index, 3)) (hn : As.length = n) (hst : st0 = As.reverse ++ rest) (hro : (rest.map fun v => v.category).sum ≤ 8) (hcl : cells ≤ R.cells ∧ slots ≤ R.slots) (kk : ∀ u : S, post u → jr_J p l e R s m args below meth c A D cl nL cells slots Q (wf u) (pc + 3) lv rest) : jr_J p l e R s m args below meth c A D cl nL cells slots Q ws pc lv st0 := by
  intro H locs ls hP hD hS hl
  subst hst
  have hF : ∀ q, va_A ws H.size q → A q := jr_free hD hS C.2.2.2.2.2.2.1
  refine va_callv (va_runSN (As := As) (rest := rest) ⟨C.1, C.2.1, C.2.2.1, C.2.2.2.1, C.2.2.2.2.1⟩ (hM H.size) cw ⟨jr_blind, fun U hU hW => ⟨rfl, by rw [hU], by rw [hU]; exact hP, va_K.moved hW.alike C.2.2.2.2.2.1, hD.weaken (fun _ _ _ _ => trivial), C.2.2.2.2.2.2.2.warm hW⟩⟩ rfl hn hl.1 rfl (lv_room hro) hdg hcl) hS (fun q _ h => hF q h) hF (fun u t H1 locs1 ht hvm hw hB hz hk hS1 => ?_)
  obtain ⟨hP1, hK1, hD1⟩ := hB
  rw [ht] at hP1
  exact kk u hw H1 locs1 ls hP1 (hD1.weaken fun _ _ _ h => hF _ h) hS1 hl
end JR2
section JR3
variable {p : Program} {l : Launch} {e : Env} {R : Room} {s : State} {m : MethodId} {args : Array Value} {below : List Frame} {meth : Method} {c : Code} {A : Nat → Prop} {D : va_G} {cl : List vw_C} {nL cells slots : Nat} {Q : State → Prop} {ws : va_W} {pc : Nat} {lv : List (Nat × Value)} {rest : List Value}
variable {cc : ByteArray} {own : String} {Ts : List Cond} {tys : List (ClassId × FieldType)} {S : Type} {wf : S → va_W} {xp : String → S → Prop} {MC MS : Nat} {Qc : Array Value → State → Outcome → State → Prop}
theorem jr_tblIn (C : jr_C p s m args c cc nL own Ts D cl tys A) {dflt lo hi : Int} {offs : Array Int} {len : Nat} {x : Int32} {off : Int} {tgt : Nat} (hdg : decode cc pc = .ok (.tableswitch dflt lo hi offs, len)) (h1 : ¬ x.toInt < lo) (h2 : ¬ hi < x.toInt) (ho : offs[(x.toInt - lo).toNat]? = some off) (ht : (pc : Int) + off = (tgt : Int)) (kk : jr_J p l e R s m args below meth c A D cl nL cells slots Q ws tgt lv rest) : jr_J p l e R s m args below meth c A D cl nL cells slots Q ws pc lv (.int x :: rest) :=
  fun H locs ls hP hD hS hl => lv_tableIn C.1 C.2.1 hdg h1 h2 ho ht (kk H locs ls hP hD hS hl)
theorem jr_tblOut (C : jr_C p s m args c cc nL own Ts D cl tys A) {dflt lo hi : Int} {offs : Array Int} {len : Nat} {x : Int32} {tgt : Nat} (hdg : decode cc pc = .ok (.tableswitch dflt lo hi offs, len)) (h : x.toInt < lo ∨ hi < x.toInt) (ht : (pc : Int) + dflt = (tgt : Int)) (kk : jr_J p l e R s m args below meth c A D cl nL cells slots Q ws tgt lv rest) : jr_J p l e R s m args below meth c A D cl nL cells slots Q ws pc lv (.int x :: rest) :=
  fun H locs ls hP hD hS hl => lv_tableOut C.1 C.2.1 hdg h ht (kk H locs ls hP hD hS hl)
/-- 'throw new E("text")' -/
theorem jr_throwS (C : jr_C p s m args c cc nL own Ts D cl tys A) (hl0 : l.stackTraces = false) (hZ : jr_Z A s s.heap) (hlocks : meth.locks = false) (hnt : ∀ x ∈ c.exceptionTable.toList, False) {cls text : String} {names : List String} {ik is ic sa : Nat} {u : S} (hstr : vk_R own is text sa s) (hcls : Bundle.fit cls = true) (hnames : ∀ n ∈ names, Bundle.fit n = true)
    (hk : (Cond.classLink own ik cls).before args s = true) (hini : (Cond.initialized cls).before args s = true) (hat : ∀ w ∈ vx_atS own ic cls names, w.before args s = true) (hgood : ∀ w ∈ Cond.classLink own ik cls :: Cond.initialized cls :: vx_atS own ic cls names, vx_ot w = true)
    (d0 : decode cc pc = .ok (.new ik, 3)) (d3 : decode cc (pc + 3) = .ok (.dup, 1)) (d4 : decode cc (pc + 4) = .ok (.ldc is, 2)) (d6 : decode cc (pc + 6) = .ok (.invokespecial ic, 3)) (d9 : decode cc (pc + 9) = .ok (.athrow, 1))
    (hRframes : names.length + 3 < R.frames) (hRlocals : (rest.map fun v => v.category).sum + (13 * (names.length + 1) + 43) ≤ R.locals) (hRcells : cells + 1 ≤ R.cells) (hRslots : slots + 6 ≤ R.slots) (hc : cells + 1 ≤ MC) (hs : slots + 6 ≤ MS) (hxp : xp cls u) (hw : ws = wf u) : jr_J p l e R s m args below meth c A D cl nL cells slots (vx_MQ below Qc (jr_X D cl tys wf A xp) args s MC MS A) ws pc lv rest := by
  subst hw
  intro H locs ls hP hD hS hl
  exact vx_throwS C.1 C.2.1 hl0 C.2.2.2.1 hcls hnames hk hini hstr hat hgood hZ.1 hZ.2 hS (by rw [C.2.2.1]; exact hl.1) d0 d3 d4 d6 d9 (fun x hx => (hnt x hx).elim) hRframes hRlocals hRcells hRslots hlocks (fun t hvm hsz hk9 => ⟨u, trivial, ⟨hxp, hP.kept (fun k q hq => hk9 q.1 ((hP k q hq).lt)), va_K.moved hvm C.2.2.2.2.2.1, hD⟩, ⟨Nat.le_trans hS.1 hsz, fun q h1 h2 => (hk9 q (Nat.lt_of_lt_of_le h1 hS.1)).trans (hS.2.1 q h1 h2)⟩⟩) hS.2.2 hc hs
end JR3
theorem jr_sw5 {x : Int32} (h0 : ¬ x = (0 : Int32)) (h1 : ¬ x = (1 : Int32)) (h2 : ¬ x = (2 : Int32)) (h3 : ¬ x = (3 : Int32)) (h4 : ¬ x = (4 : Int32)) : x.toInt < 0 ∨ 4 < x.toInt := by
  have e0 : x.toInt ≠ 0 := fun q => h0 (Int32.toInt_inj.mp (q.trans (by decide)))
  have e1 : x.toInt ≠ 1 := fun q => h1 (Int32.toInt_inj.mp (q.trans (by decide)))
  have e2 : x.toInt ≠ 2 := fun q => h2 (Int32.toInt_inj.mp (q.trans (by decide)))
  have e3 : x.toInt ≠ 3 := fun q => h3 (Int32.toInt_inj.mp (q.trans (by decide)))
  have e4 : x.toInt ≠ 4 := fun q => h4 (Int32.toInt_inj.mp (q.trans (by decide)))
  omega
/-- the ints of a world: of the cell at a place, the int at a place -/
abbrev jS : Type := Nat → Nat → Int32
def jq (st : jS) (k j : Nat) (x : Int32) : jS := fun q => if q = k then upd (st k) j x else st q
def jw (N : Nat) (ad : Nat → Nat) (G : Nat → (Nat → Int32) → va_E) (st : jS) (fr : va_W) : va_W := (List.range N).map (fun k => (ad k, G k (st k))) ++ fr
theorem jw_at {N : Nat} {ad : Nat → Nat} {G : Nat → (Nat → Int32) → va_E} {st : jS} {fr : va_W} {k : Nat} (h : k < N) {e : va_E} (he : G k (st k) = e) : (jw N ad G st fr)[k]? = some (ad k, e) := by
  subst he
  unfold jw
  rw [List.getElem?_append_left (by simp; exact h), List.getElem?_map, List.getElem?_range h]
  rfl
theorem jw_put {N : Nat} {ad : Nat → Nat} {G : Nat → (Nat → Int32) → va_E} {st : jS} {fr : va_W} {k j : Nat} {x : Int32} (h : k < N) {e : va_E} (he : G k (upd (st k) j x) = e) : (jw N ad G st fr).set k (ad k, e) = jw N ad G (jq st k j x) fr := by
  subst he
  unfold jw
  have hl : k < ((List.range N).map (fun k => (ad k, G k (st k)))).length := by simp; exact h
  rw [List.set_append, if_pos hl]
  congr 1
  apply List.ext_getElem?
  intro i
  rw [List.getElem?_set, List.getElem?_map, List.getElem?_map]
  by_cases hki : k = i
  · subst hki
    rw [if_pos rfl, if_pos hl, List.getElem?_range h]
    simp [jq]
  · rw [if_neg hki]
    by_cases hi : i < N
    · rw [List.getElem?_range hi]
      have hik : ¬ i = k := fun q => hki q.symm
      simp [jq, hik]
    · rw [List.getElem?_eq_none (by simp; omega)]
      rfl
theorem jq_same {st : jS} {k j : Nat} {x : Int32} : jq st k j x k = upd (st k) j x := by unfold jq; rw [if_pos rfl]
theorem jq_ne {st : jS} {k j q : Nat} {x : Int32} (h : q ≠ k) : jq st k j x q = st q := by unfold jq; rw [if_neg h]
theorem vi_lt {i : Int32} {n : Nat} (h : vp_in i n) : i.toNatClampNeg < n := Nat.lt_of_not_le fun q => h (Or.inr q)
/-- the words of a throw: those that are handed on, and those that aren't -/
theorem jr_hat {p : Program} {s : State} {m : MethodId} {args : Array Value} {c : Code} {cc : ByteArray} {nL : Nat} {own : String} {w0 : Cond} {D : va_G} {cl : List vw_C} {tys : List (ClassId × FieldType)} {A : Nat → Prop} {L : List Cond} (h : ∀ w ∈ L, w ∈ tw ∨ w ∈ jnw) (C : jr_C p s m args c cc nL own (w0 :: tw) D cl tys A) : ∀ w ∈ L, w.before args s = true :=
  fun w hw => (h w hw).elim (fun q => C.2.2.2.2.1 w (List.mem_cons_of_mem _ q)) (fun q => va_Nw.use (jnw_on w q) (C.2.2.2.2.2.2.2 w q))
end
section
theorem dEx_init_0 : decode bEx_init 0 = .ok (.aload_n 0, 1) := by decide +kernel
theorem dEx_init_1 : decode bEx_init 1 = .ok (.invokespecial 3, 3) := by decide +kernel
theorem dEx_init_4 : decode bEx_init 4 = .ok (.aload_n 0, 1) := by decide +kernel
theorem dEx_init_5 : decode bEx_init 5 = .ok (.iload_n 1, 1) := by decide +kernel
theorem dEx_init_6 : decode bEx_init 6 = .ok (.putfield 9, 3) := by decide +kernel
theorem dEx_init_9 : decode bEx_init 9 = .ok (.aload_n 0, 1) := by decide +kernel
theorem dEx_init_10 : decode bEx_init 10 = .ok (.bipush (24), 2) := by decide +kernel
theorem dEx_init_12 : decode bEx_init 12 = .ok (.iload_n 1, 1) := by decide +kernel
theorem dEx_init_13 : decode bEx_init 13 = .ok (.multianewarray 15 2, 4) := by decide +kernel
theorem dEx_init_17 : decode bEx_init 17 = .ok (.putfield 17, 3) := by decide +kernel
theorem dEx_init_20 : decode bEx_init 20 = .ok (.aload_n 0, 1) := by decide +kernel
theorem dEx_init_21 : decode bEx_init 21 = .ok (.bipush (24), 2) := by decide +kernel
theorem dEx_init_23 : decode bEx_init 23 = .ok (.newarray .int, 2) := by decide +kernel
theorem dEx_init_25 : decode bEx_init 25 = .ok (.putfield 20, 3) := by decide +kernel
theorem dEx_init_28 : decode bEx_init 28 = .ok (.aload_n 0, 1) := by decide +kernel
theorem dEx_init_29 : decode bEx_init 29 = .ok (.iload_n 1, 1) := by decide +kernel
theorem dEx_init_30 : decode bEx_init 30 = .ok (.newarray .int, 2) := by decide +kernel
theorem dEx_init_32 : decode bEx_init 32 = .ok (.putfield 24, 3) := by decide +kernel
theorem dEx_init_35 : decode bEx_init 35 = .ok (.aload_n 0, 1) := by decide +kernel
theorem dEx_init_36 : decode bEx_init 36 = .ok (.bipush (24), 2) := by decide +kernel
theorem dEx_init_38 : decode bEx_init 38 = .ok (.newarray .int, 2) := by decide +kernel
theorem dEx_init_40 : decode bEx_init 40 = .ok (.putfield 27, 3) := by decide +kernel
theorem dEx_init_43 : decode bEx_init 43 = .ok (.iconst 0, 1) := by decide +kernel
theorem dEx_init_44 : decode bEx_init 44 = .ok (.istore_n 2, 1) := by decide +kernel
theorem dEx_init_45 : decode bEx_init 45 = .ok (.iload_n 2, 1) := by decide +kernel
theorem dEx_init_46 : decode bEx_init 46 = .ok (.iload_n 1, 1) := by decide +kernel
theorem dEx_init_47 : decode bEx_init 47 = .ok (.if_icmp .ge (17), 3) := by decide +kernel
theorem dEx_init_50 : decode bEx_init 50 = .ok (.aload_n 0, 1) := by decide +kernel
theorem dEx_init_51 : decode bEx_init 51 = .ok (.getfield 24, 3) := by decide +kernel
theorem dEx_init_54 : decode bEx_init 54 = .ok (.iload_n 2, 1) := by decide +kernel
theorem dEx_init_55 : decode bEx_init 55 = .ok (.bipush (100), 2) := by decide +kernel
theorem dEx_init_57 : decode bEx_init 57 = .ok (.iastore, 1) := by decide +kernel
theorem dEx_init_58 : decode bEx_init 58 = .ok (.iinc 2 (1), 3) := by decide +kernel
theorem dEx_init_61 : decode bEx_init 61 = .ok (.goto (-16), 3) := by decide +kernel
theorem dEx_init_64 : decode bEx_init 64 = .ok (.return_, 1) := by decide +kernel
theorem dEx_add_0 : decode bEx_add 0 = .ok (.aload_n 0, 1) := by decide +kernel
theorem dEx_add_1 : decode bEx_add 1 = .ok (.getfield 20, 3) := by decide +kernel
theorem dEx_add_4 : decode bEx_add 4 = .ok (.aload_n 0, 1) := by decide +kernel
theorem dEx_add_5 : decode bEx_add 5 = .ok (.getfield 30, 3) := by decide +kernel
theorem dEx_add_8 : decode bEx_add 8 = .ok (.iload_n 1, 1) := by decide +kernel
theorem dEx_add_9 : decode bEx_add 9 = .ok (.iastore, 1) := by decide +kernel
theorem dEx_add_10 : decode bEx_add 10 = .ok (.aload_n 0, 1) := by decide +kernel
theorem dEx_add_11 : decode bEx_add 11 = .ok (.dup, 1) := by decide +kernel
theorem dEx_add_12 : decode bEx_add 12 = .ok (.getfield 30, 3) := by decide +kernel
theorem dEx_add_15 : decode bEx_add 15 = .ok (.iconst 1, 1) := by decide +kernel
theorem dEx_add_16 : decode bEx_add 16 = .ok (.iadd, 1) := by decide +kernel
theorem dEx_add_17 : decode bEx_add 17 = .ok (.putfield 30, 3) := by decide +kernel
theorem dEx_add_20 : decode bEx_add 20 = .ok (.aload_n 0, 1) := by decide +kernel
theorem dEx_add_21 : decode bEx_add 21 = .ok (.getfield 30, 3) := by decide +kernel
theorem dEx_add_24 : decode bEx_add 24 = .ok (.iconst 1, 1) := by decide +kernel
theorem dEx_add_25 : decode bEx_add 25 = .ok (.isub, 1) := by decide +kernel
theorem dEx_add_26 : decode bEx_add 26 = .ok (.ireturn, 1) := by decide +kernel
theorem dEx_cellOf_0 : decode bEx_cellOf 0 = .ok (.aload_n 0, 1) := by decide +kernel
theorem dEx_cellOf_1 : decode bEx_cellOf 1 = .ok (.getfield 17, 3) := by decide +kernel
theorem dEx_cellOf_4 : decode bEx_cellOf 4 = .ok (.iload_n 1, 1) := by decide +kernel
theorem dEx_cellOf_5 : decode bEx_cellOf 5 = .ok (.aaload, 1) := by decide +kernel
theorem dEx_cellOf_6 : decode bEx_cellOf 6 = .ok (.iload_n 2, 1) := by decide +kernel
theorem dEx_cellOf_7 : decode bEx_cellOf 7 = .ok (.iaload, 1) := by decide +kernel
theorem dEx_cellOf_8 : decode bEx_cellOf 8 = .ok (.aload_n 0, 1) := by decide +kernel
theorem dEx_cellOf_9 : decode bEx_cellOf 9 = .ok (.getfield 24, 3) := by decide +kernel
theorem dEx_cellOf_12 : decode bEx_cellOf 12 = .ok (.iload_n 2, 1) := by decide +kernel
theorem dEx_cellOf_13 : decode bEx_cellOf 13 = .ok (.iaload, 1) := by decide +kernel
theorem dEx_cellOf_14 : decode bEx_cellOf 14 = .ok (.idiv, 1) := by decide +kernel
theorem dEx_cellOf_15 : decode bEx_cellOf 15 = .ok (.ireturn, 1) := by decide +kernel
theorem dEx_sameCells_0 : decode bEx_sameCells 0 = .ok (.iconst 0, 1) := by decide +kernel
theorem dEx_sameCells_1 : decode bEx_sameCells 1 = .ok (.istore 5, 2) := by decide +kernel
theorem dEx_sameCells_3 : decode bEx_sameCells 3 = .ok (.iload_n 3, 1) := by decide +kernel
theorem dEx_sameCells_4 : decode bEx_sameCells 4 = .ok (.istore 6, 2) := by decide +kernel
theorem dEx_sameCells_6 : decode bEx_sameCells 6 = .ok (.iload 6, 2) := by decide +kernel
theorem dEx_sameCells_8 : decode bEx_sameCells 8 = .ok (.iload 4, 2) := by decide +kernel
theorem dEx_sameCells_10 : decode bEx_sameCells 10 = .ok (.if_icmp .ge (29), 3) := by decide +kernel
theorem dEx_sameCells_13 : decode bEx_sameCells 13 = .ok (.aload_n 0, 1) := by decide +kernel
theorem dEx_sameCells_14 : decode bEx_sameCells 14 = .ok (.iload_n 1, 1) := by decide +kernel
theorem dEx_sameCells_15 : decode bEx_sameCells 15 = .ok (.iload 6, 2) := by decide +kernel
theorem dEx_sameCells_17 : decode bEx_sameCells 17 = .ok (.invokevirtual 33, 3) := by decide +kernel
theorem dEx_sameCells_20 : decode bEx_sameCells 20 = .ok (.aload_n 0, 1) := by decide +kernel
theorem dEx_sameCells_21 : decode bEx_sameCells 21 = .ok (.iload_n 2, 1) := by decide +kernel
theorem dEx_sameCells_22 : decode bEx_sameCells 22 = .ok (.iload 6, 2) := by decide +kernel
theorem dEx_sameCells_24 : decode bEx_sameCells 24 = .ok (.invokevirtual 33, 3) := by decide +kernel
theorem dEx_sameCells_27 : decode bEx_sameCells 27 = .ok (.if_icmp .ne (6), 3) := by decide +kernel
theorem dEx_sameCells_30 : decode bEx_sameCells 30 = .ok (.iinc 5 (1), 3) := by decide +kernel
theorem dEx_sameCells_33 : decode bEx_sameCells 33 = .ok (.iinc 6 (1), 3) := by decide +kernel
theorem dEx_sameCells_36 : decode bEx_sameCells 36 = .ok (.goto (-30), 3) := by decide +kernel
theorem dEx_sameCells_39 : decode bEx_sameCells 39 = .ok (.iload 5, 2) := by decide +kernel
theorem dEx_sameCells_41 : decode bEx_sameCells 41 = .ok (.ireturn, 1) := by decide +kernel
theorem dEx_countTaught_0 : decode bEx_countTaught 0 = .ok (.iconst 0, 1) := by decide +kernel
theorem dEx_countTaught_1 : decode bEx_countTaught 1 = .ok (.istore_n 2, 1) := by decide +kernel
theorem dEx_countTaught_2 : decode bEx_countTaught 2 = .ok (.iconst 0, 1) := by decide +kernel
theorem dEx_countTaught_3 : decode bEx_countTaught 3 = .ok (.istore_n 3, 1) := by decide +kernel
theorem dEx_countTaught_4 : decode bEx_countTaught 4 = .ok (.iload_n 3, 1) := by decide +kernel
theorem dEx_countTaught_5 : decode bEx_countTaught 5 = .ok (.aload_n 0, 1) := by decide +kernel
theorem dEx_countTaught_6 : decode bEx_countTaught 6 = .ok (.getfield 30, 3) := by decide +kernel
theorem dEx_countTaught_9 : decode bEx_countTaught 9 = .ok (.if_icmp .ge (22), 3) := by decide +kernel
theorem dEx_countTaught_12 : decode bEx_countTaught 12 = .ok (.aload_n 0, 1) := by decide +kernel
theorem dEx_countTaught_13 : decode bEx_countTaught 13 = .ok (.getfield 20, 3) := by decide +kernel
theorem dEx_countTaught_16 : decode bEx_countTaught 16 = .ok (.iload_n 3, 1) := by decide +kernel
theorem dEx_countTaught_17 : decode bEx_countTaught 17 = .ok (.iaload, 1) := by decide +kernel
theorem dEx_countTaught_18 : decode bEx_countTaught 18 = .ok (.iload_n 1, 1) := by decide +kernel
theorem dEx_countTaught_19 : decode bEx_countTaught 19 = .ok (.if_icmp .ne (6), 3) := by decide +kernel
theorem dEx_countTaught_22 : decode bEx_countTaught 22 = .ok (.iinc 2 (1), 3) := by decide +kernel
theorem dEx_countTaught_25 : decode bEx_countTaught 25 = .ok (.iinc 3 (1), 3) := by decide +kernel
theorem dEx_countTaught_28 : decode bEx_countTaught 28 = .ok (.goto (-24), 3) := by decide +kernel
theorem dEx_countTaught_31 : decode bEx_countTaught 31 = .ok (.iload_n 2, 1) := by decide +kernel
theorem dEx_countTaught_32 : decode bEx_countTaught 32 = .ok (.ireturn, 1) := by decide +kernel
theorem dEx_squares_0 : decode bEx_squares 0 = .ok (.iconst 0, 1) := by decide +kernel
theorem dEx_squares_1 : decode bEx_squares 1 = .ok (.istore_n 3, 1) := by decide +kernel
theorem dEx_squares_2 : decode bEx_squares 2 = .ok (.iconst 0, 1) := by decide +kernel
theorem dEx_squares_3 : decode bEx_squares 3 = .ok (.istore 4, 2) := by decide +kernel
theorem dEx_squares_5 : decode bEx_squares 5 = .ok (.iload 4, 2) := by decide +kernel
theorem dEx_squares_7 : decode bEx_squares 7 = .ok (.aload_n 0, 1) := by decide +kernel
theorem dEx_squares_8 : decode bEx_squares 8 = .ok (.getfield 9, 3) := by decide +kernel
theorem dEx_squares_11 : decode bEx_squares 11 = .ok (.if_icmp .ge (34), 3) := by decide +kernel
theorem dEx_squares_14 : decode bEx_squares 14 = .ok (.iload_n 3, 1) := by decide +kernel
theorem dEx_squares_15 : decode bEx_squares 15 = .ok (.aload_n 0, 1) := by decide +kernel
theorem dEx_squares_16 : decode bEx_squares 16 = .ok (.getfield 17, 3) := by decide +kernel
theorem dEx_squares_19 : decode bEx_squares 19 = .ok (.iload_n 1, 1) := by decide +kernel
theorem dEx_squares_20 : decode bEx_squares 20 = .ok (.aaload, 1) := by decide +kernel
theorem dEx_squares_21 : decode bEx_squares 21 = .ok (.iload 4, 2) := by decide +kernel
theorem dEx_squares_23 : decode bEx_squares 23 = .ok (.iaload, 1) := by decide +kernel
theorem dEx_squares_24 : decode bEx_squares 24 = .ok (.aload_n 0, 1) := by decide +kernel
theorem dEx_squares_25 : decode bEx_squares 25 = .ok (.getfield 17, 3) := by decide +kernel
theorem dEx_squares_28 : decode bEx_squares 28 = .ok (.iload_n 2, 1) := by decide +kernel
theorem dEx_squares_29 : decode bEx_squares 29 = .ok (.aaload, 1) := by decide +kernel
theorem dEx_squares_30 : decode bEx_squares 30 = .ok (.iload 4, 2) := by decide +kernel
theorem dEx_squares_32 : decode bEx_squares 32 = .ok (.iaload, 1) := by decide +kernel
theorem dEx_squares_33 : decode bEx_squares 33 = .ok (.isub, 1) := by decide +kernel
theorem dEx_squares_34 : decode bEx_squares 34 = .ok (.invokestatic 37, 3) := by decide +kernel
theorem dEx_squares_37 : decode bEx_squares 37 = .ok (.iadd, 1) := by decide +kernel
theorem dEx_squares_38 : decode bEx_squares 38 = .ok (.istore_n 3, 1) := by decide +kernel
theorem dEx_squares_39 : decode bEx_squares 39 = .ok (.iinc 4 (1), 3) := by decide +kernel
theorem dEx_squares_42 : decode bEx_squares 42 = .ok (.goto (-37), 3) := by decide +kernel
theorem dEx_squares_45 : decode bEx_squares 45 = .ok (.iload_n 3, 1) := by decide +kernel
theorem dEx_squares_46 : decode bEx_squares 46 = .ok (.ireturn, 1) := by decide +kernel
theorem dEx_neighbour_0 : decode bEx_neighbour 0 = .ok (.iconst 0, 1) := by decide +kernel
theorem dEx_neighbour_1 : decode bEx_neighbour 1 = .ok (.istore_n 3, 1) := by decide +kernel
theorem dEx_neighbour_2 : decode bEx_neighbour 2 = .ok (.iload_n 3, 1) := by decide +kernel
theorem dEx_neighbour_3 : decode bEx_neighbour 3 = .ok (.aload_n 0, 1) := by decide +kernel
theorem dEx_neighbour_4 : decode bEx_neighbour 4 = .ok (.getfield 30, 3) := by decide +kernel
theorem dEx_neighbour_7 : decode bEx_neighbour 7 = .ok (.if_icmp .ge (30), 3) := by decide +kernel
theorem dEx_neighbour_10 : decode bEx_neighbour 10 = .ok (.aload_n 0, 1) := by decide +kernel
theorem dEx_neighbour_11 : decode bEx_neighbour 11 = .ok (.iload_n 3, 1) := by decide +kernel
theorem dEx_neighbour_12 : decode bEx_neighbour 12 = .ok (.iload_n 1, 1) := by decide +kernel
theorem dEx_neighbour_13 : decode bEx_neighbour 13 = .ok (.invokevirtual 41, 3) := by decide +kernel
theorem dEx_neighbour_16 : decode bEx_neighbour 16 = .ok (.ifCond .eq (15), 3) := by decide +kernel
theorem dEx_neighbour_19 : decode bEx_neighbour 19 = .ok (.aload_n 0, 1) := by decide +kernel
theorem dEx_neighbour_20 : decode bEx_neighbour 20 = .ok (.iload_n 3, 1) := by decide +kernel
theorem dEx_neighbour_21 : decode bEx_neighbour 21 = .ok (.iload_n 1, 1) := by decide +kernel
theorem dEx_neighbour_22 : decode bEx_neighbour 22 = .ok (.invokevirtual 45, 3) := by decide +kernel
theorem dEx_neighbour_25 : decode bEx_neighbour 25 = .ok (.iload_n 2, 1) := by decide +kernel
theorem dEx_neighbour_26 : decode bEx_neighbour 26 = .ok (.if_icmp .ne (5), 3) := by decide +kernel
theorem dEx_neighbour_29 : decode bEx_neighbour 29 = .ok (.iload_n 3, 1) := by decide +kernel
theorem dEx_neighbour_30 : decode bEx_neighbour 30 = .ok (.ireturn, 1) := by decide +kernel
theorem dEx_neighbour_31 : decode bEx_neighbour 31 = .ok (.iinc 3 (1), 3) := by decide +kernel
theorem dEx_neighbour_34 : decode bEx_neighbour 34 = .ok (.goto (-32), 3) := by decide +kernel
theorem dEx_neighbour_37 : decode bEx_neighbour 37 = .ok (.iconst (-1), 1) := by decide +kernel
theorem dEx_neighbour_38 : decode bEx_neighbour 38 = .ok (.ireturn, 1) := by decide +kernel
theorem dEx_isCandidate_0 : decode bEx_isCandidate 0 = .ok (.iload_n 1, 1) := by decide +kernel
theorem dEx_isCandidate_1 : decode bEx_isCandidate 1 = .ok (.iload_n 2, 1) := by decide +kernel
theorem dEx_isCandidate_2 : decode bEx_isCandidate 2 = .ok (.if_icmp .eq (17), 3) := by decide +kernel
theorem dEx_isCandidate_5 : decode bEx_isCandidate 5 = .ok (.aload_n 0, 1) := by decide +kernel
theorem dEx_isCandidate_6 : decode bEx_isCandidate 6 = .ok (.getfield 20, 3) := by decide +kernel
theorem dEx_isCandidate_9 : decode bEx_isCandidate 9 = .ok (.iload_n 1, 1) := by decide +kernel
theorem dEx_isCandidate_10 : decode bEx_isCandidate 10 = .ok (.iaload, 1) := by decide +kernel
theorem dEx_isCandidate_11 : decode bEx_isCandidate 11 = .ok (.iconst (-1), 1) := by decide +kernel
theorem dEx_isCandidate_12 : decode bEx_isCandidate 12 = .ok (.if_icmp .eq (7), 3) := by decide +kernel
theorem dEx_isCandidate_15 : decode bEx_isCandidate 15 = .ok (.iconst 1, 1) := by decide +kernel
theorem dEx_isCandidate_16 : decode bEx_isCandidate 16 = .ok (.goto (4), 3) := by decide +kernel
theorem dEx_isCandidate_19 : decode bEx_isCandidate 19 = .ok (.iconst 0, 1) := by decide +kernel
theorem dEx_isCandidate_20 : decode bEx_isCandidate 20 = .ok (.ireturn, 1) := by decide +kernel
theorem dEx_countNearer_0 : decode bEx_countNearer 0 = .ok (.aload_n 0, 1) := by decide +kernel
theorem dEx_countNearer_1 : decode bEx_countNearer 1 = .ok (.iload_n 1, 1) := by decide +kernel
theorem dEx_countNearer_2 : decode bEx_countNearer 2 = .ok (.iload_n 2, 1) := by decide +kernel
theorem dEx_countNearer_3 : decode bEx_countNearer 3 = .ok (.invokevirtual 48, 3) := by decide +kernel
theorem dEx_countNearer_6 : decode bEx_countNearer 6 = .ok (.istore_n 3, 1) := by decide +kernel
theorem dEx_countNearer_7 : decode bEx_countNearer 7 = .ok (.iconst 0, 1) := by decide +kernel
theorem dEx_countNearer_8 : decode bEx_countNearer 8 = .ok (.istore 4, 2) := by decide +kernel
theorem dEx_countNearer_10 : decode bEx_countNearer 10 = .ok (.iconst 0, 1) := by decide +kernel
theorem dEx_countNearer_11 : decode bEx_countNearer 11 = .ok (.istore 5, 2) := by decide +kernel
theorem dEx_countNearer_13 : decode bEx_countNearer 13 = .ok (.iload 5, 2) := by decide +kernel
theorem dEx_countNearer_15 : decode bEx_countNearer 15 = .ok (.aload_n 0, 1) := by decide +kernel
theorem dEx_countNearer_16 : decode bEx_countNearer 16 = .ok (.getfield 30, 3) := by decide +kernel
theorem dEx_countNearer_19 : decode bEx_countNearer 19 = .ok (.if_icmp .ge (49), 3) := by decide +kernel
theorem dEx_countNearer_22 : decode bEx_countNearer 22 = .ok (.aload_n 0, 1) := by decide +kernel
theorem dEx_countNearer_23 : decode bEx_countNearer 23 = .ok (.iload 5, 2) := by decide +kernel
theorem dEx_countNearer_25 : decode bEx_countNearer 25 = .ok (.iload_n 2, 1) := by decide +kernel
theorem dEx_countNearer_26 : decode bEx_countNearer 26 = .ok (.invokevirtual 41, 3) := by decide +kernel
theorem dEx_countNearer_29 : decode bEx_countNearer 29 = .ok (.ifCond .eq (33), 3) := by decide +kernel
theorem dEx_countNearer_32 : decode bEx_countNearer 32 = .ok (.aload_n 0, 1) := by decide +kernel
theorem dEx_countNearer_33 : decode bEx_countNearer 33 = .ok (.iload 5, 2) := by decide +kernel
theorem dEx_countNearer_35 : decode bEx_countNearer 35 = .ok (.iload_n 2, 1) := by decide +kernel
theorem dEx_countNearer_36 : decode bEx_countNearer 36 = .ok (.invokevirtual 48, 3) := by decide +kernel
theorem dEx_countNearer_39 : decode bEx_countNearer 39 = .ok (.istore 6, 2) := by decide +kernel
theorem dEx_countNearer_41 : decode bEx_countNearer 41 = .ok (.iload 6, 2) := by decide +kernel
theorem dEx_countNearer_43 : decode bEx_countNearer 43 = .ok (.iload_n 3, 1) := by decide +kernel
theorem dEx_countNearer_44 : decode bEx_countNearer 44 = .ok (.if_icmp .lt (15), 3) := by decide +kernel
theorem dEx_countNearer_47 : decode bEx_countNearer 47 = .ok (.iload 6, 2) := by decide +kernel
theorem dEx_countNearer_49 : decode bEx_countNearer 49 = .ok (.iload_n 3, 1) := by decide +kernel
theorem dEx_countNearer_50 : decode bEx_countNearer 50 = .ok (.if_icmp .ne (12), 3) := by decide +kernel
theorem dEx_countNearer_53 : decode bEx_countNearer 53 = .ok (.iload 5, 2) := by decide +kernel
theorem dEx_countNearer_55 : decode bEx_countNearer 55 = .ok (.iload_n 1, 1) := by decide +kernel
theorem dEx_countNearer_56 : decode bEx_countNearer 56 = .ok (.if_icmp .ge (6), 3) := by decide +kernel
theorem dEx_countNearer_59 : decode bEx_countNearer 59 = .ok (.iinc 4 (1), 3) := by decide +kernel
theorem dEx_countNearer_62 : decode bEx_countNearer 62 = .ok (.iinc 5 (1), 3) := by decide +kernel
theorem dEx_countNearer_65 : decode bEx_countNearer 65 = .ok (.goto (-52), 3) := by decide +kernel
theorem dEx_countNearer_68 : decode bEx_countNearer 68 = .ok (.iload 4, 2) := by decide +kernel
theorem dEx_countNearer_70 : decode bEx_countNearer 70 = .ok (.ireturn, 1) := by decide +kernel
theorem dEx_countGroups_0 : decode bEx_countGroups 0 = .ok (.iconst 0, 1) := by decide +kernel
theorem dEx_countGroups_1 : decode bEx_countGroups 1 = .ok (.istore_n 2, 1) := by decide +kernel
theorem dEx_countGroups_2 : decode bEx_countGroups 2 = .ok (.iload_n 2, 1) := by decide +kernel
theorem dEx_countGroups_3 : decode bEx_countGroups 3 = .ok (.aload_n 0, 1) := by decide +kernel
theorem dEx_countGroups_4 : decode bEx_countGroups 4 = .ok (.getfield 30, 3) := by decide +kernel
theorem dEx_countGroups_7 : decode bEx_countGroups 7 = .ok (.if_icmp .ge (16), 3) := by decide +kernel
theorem dEx_countGroups_10 : decode bEx_countGroups 10 = .ok (.aload_n 0, 1) := by decide +kernel
theorem dEx_countGroups_11 : decode bEx_countGroups 11 = .ok (.getfield 27, 3) := by decide +kernel
theorem dEx_countGroups_14 : decode bEx_countGroups 14 = .ok (.iload_n 2, 1) := by decide +kernel
theorem dEx_countGroups_15 : decode bEx_countGroups 15 = .ok (.iload_n 2, 1) := by decide +kernel
theorem dEx_countGroups_16 : decode bEx_countGroups 16 = .ok (.iastore, 1) := by decide +kernel
theorem dEx_countGroups_17 : decode bEx_countGroups 17 = .ok (.iinc 2 (1), 3) := by decide +kernel
theorem dEx_countGroups_20 : decode bEx_countGroups 20 = .ok (.goto (-18), 3) := by decide +kernel
theorem dEx_countGroups_23 : decode bEx_countGroups 23 = .ok (.aload_n 0, 1) := by decide +kernel
theorem dEx_countGroups_24 : decode bEx_countGroups 24 = .ok (.getfield 30, 3) := by decide +kernel
theorem dEx_countGroups_27 : decode bEx_countGroups 27 = .ok (.istore_n 2, 1) := by decide +kernel
theorem dEx_countGroups_28 : decode bEx_countGroups 28 = .ok (.iconst 0, 1) := by decide +kernel
theorem dEx_countGroups_29 : decode bEx_countGroups 29 = .ok (.istore_n 3, 1) := by decide +kernel
theorem dEx_countGroups_30 : decode bEx_countGroups 30 = .ok (.iload_n 3, 1) := by decide +kernel
theorem dEx_countGroups_31 : decode bEx_countGroups 31 = .ok (.aload_n 0, 1) := by decide +kernel
theorem dEx_countGroups_32 : decode bEx_countGroups 32 = .ok (.getfield 30, 3) := by decide +kernel
theorem dEx_countGroups_35 : decode bEx_countGroups 35 = .ok (.if_icmp .ge (81), 3) := by decide +kernel
theorem dEx_countGroups_38 : decode bEx_countGroups 38 = .ok (.iload_n 3, 1) := by decide +kernel
theorem dEx_countGroups_39 : decode bEx_countGroups 39 = .ok (.iconst 1, 1) := by decide +kernel
theorem dEx_countGroups_40 : decode bEx_countGroups 40 = .ok (.iadd, 1) := by decide +kernel
theorem dEx_countGroups_41 : decode bEx_countGroups 41 = .ok (.istore 4, 2) := by decide +kernel
theorem dEx_countGroups_43 : decode bEx_countGroups 43 = .ok (.iload 4, 2) := by decide +kernel
theorem dEx_countGroups_45 : decode bEx_countGroups 45 = .ok (.aload_n 0, 1) := by decide +kernel
theorem dEx_countGroups_46 : decode bEx_countGroups 46 = .ok (.getfield 30, 3) := by decide +kernel
theorem dEx_countGroups_49 : decode bEx_countGroups 49 = .ok (.if_icmp .ge (61), 3) := by decide +kernel
theorem dEx_countGroups_52 : decode bEx_countGroups 52 = .ok (.aload_n 0, 1) := by decide +kernel
theorem dEx_countGroups_53 : decode bEx_countGroups 53 = .ok (.getfield 27, 3) := by decide +kernel
theorem dEx_countGroups_56 : decode bEx_countGroups 56 = .ok (.iload_n 3, 1) := by decide +kernel
theorem dEx_countGroups_57 : decode bEx_countGroups 57 = .ok (.iaload, 1) := by decide +kernel
theorem dEx_countGroups_58 : decode bEx_countGroups 58 = .ok (.aload_n 0, 1) := by decide +kernel
theorem dEx_countGroups_59 : decode bEx_countGroups 59 = .ok (.getfield 27, 3) := by decide +kernel
theorem dEx_countGroups_62 : decode bEx_countGroups 62 = .ok (.iload 4, 2) := by decide +kernel
theorem dEx_countGroups_64 : decode bEx_countGroups 64 = .ok (.iaload, 1) := by decide +kernel
theorem dEx_countGroups_65 : decode bEx_countGroups 65 = .ok (.if_icmp .eq (39), 3) := by decide +kernel
theorem dEx_countGroups_68 : decode bEx_countGroups 68 = .ok (.aload_n 0, 1) := by decide +kernel
theorem dEx_countGroups_69 : decode bEx_countGroups 69 = .ok (.iload_n 3, 1) := by decide +kernel
theorem dEx_countGroups_70 : decode bEx_countGroups 70 = .ok (.iload 4, 2) := by decide +kernel
theorem dEx_countGroups_72 : decode bEx_countGroups 72 = .ok (.iconst 0, 1) := by decide +kernel
theorem dEx_countGroups_73 : decode bEx_countGroups 73 = .ok (.aload_n 0, 1) := by decide +kernel
theorem dEx_countGroups_74 : decode bEx_countGroups 74 = .ok (.getfield 9, 3) := by decide +kernel
theorem dEx_countGroups_77 : decode bEx_countGroups 77 = .ok (.invokevirtual 51, 3) := by decide +kernel
theorem dEx_countGroups_80 : decode bEx_countGroups 80 = .ok (.iload_n 1, 1) := by decide +kernel
theorem dEx_countGroups_81 : decode bEx_countGroups 81 = .ok (.if_icmp .lt (23), 3) := by decide +kernel
theorem dEx_countGroups_84 : decode bEx_countGroups 84 = .ok (.aload_n 0, 1) := by decide +kernel
theorem dEx_countGroups_85 : decode bEx_countGroups 85 = .ok (.aload_n 0, 1) := by decide +kernel
theorem dEx_countGroups_86 : decode bEx_countGroups 86 = .ok (.getfield 27, 3) := by decide +kernel
theorem dEx_countGroups_89 : decode bEx_countGroups 89 = .ok (.iload_n 3, 1) := by decide +kernel
theorem dEx_countGroups_90 : decode bEx_countGroups 90 = .ok (.iaload, 1) := by decide +kernel
theorem dEx_countGroups_91 : decode bEx_countGroups 91 = .ok (.aload_n 0, 1) := by decide +kernel
theorem dEx_countGroups_92 : decode bEx_countGroups 92 = .ok (.getfield 27, 3) := by decide +kernel
theorem dEx_countGroups_95 : decode bEx_countGroups 95 = .ok (.iload 4, 2) := by decide +kernel
theorem dEx_countGroups_97 : decode bEx_countGroups 97 = .ok (.iaload, 1) := by decide +kernel
theorem dEx_countGroups_98 : decode bEx_countGroups 98 = .ok (.invokevirtual 55, 3) := by decide +kernel
theorem dEx_countGroups_101 : decode bEx_countGroups 101 = .ok (.iinc 2 (-1), 3) := by decide +kernel
theorem dEx_countGroups_104 : decode bEx_countGroups 104 = .ok (.iinc 4 (1), 3) := by decide +kernel
theorem dEx_countGroups_107 : decode bEx_countGroups 107 = .ok (.goto (-64), 3) := by decide +kernel
theorem dEx_countGroups_110 : decode bEx_countGroups 110 = .ok (.iinc 3 (1), 3) := by decide +kernel
theorem dEx_countGroups_113 : decode bEx_countGroups 113 = .ok (.goto (-83), 3) := by decide +kernel
theorem dEx_countGroups_116 : decode bEx_countGroups 116 = .ok (.iload_n 2, 1) := by decide +kernel
theorem dEx_countGroups_117 : decode bEx_countGroups 117 = .ok (.ireturn, 1) := by decide +kernel
theorem dEx_joinGroups_0 : decode bEx_joinGroups 0 = .ok (.iconst 0, 1) := by decide +kernel
theorem dEx_joinGroups_1 : decode bEx_joinGroups 1 = .ok (.istore_n 3, 1) := by decide +kernel
theorem dEx_joinGroups_2 : decode bEx_joinGroups 2 = .ok (.iload_n 3, 1) := by decide +kernel
theorem dEx_joinGroups_3 : decode bEx_joinGroups 3 = .ok (.aload_n 0, 1) := by decide +kernel
theorem dEx_joinGroups_4 : decode bEx_joinGroups 4 = .ok (.getfield 30, 3) := by decide +kernel
theorem dEx_joinGroups_7 : decode bEx_joinGroups 7 = .ok (.if_icmp .ge (26), 3) := by decide +kernel
theorem dEx_joinGroups_10 : decode bEx_joinGroups 10 = .ok (.aload_n 0, 1) := by decide +kernel
theorem dEx_joinGroups_11 : decode bEx_joinGroups 11 = .ok (.getfield 27, 3) := by decide +kernel
theorem dEx_joinGroups_14 : decode bEx_joinGroups 14 = .ok (.iload_n 3, 1) := by decide +kernel
theorem dEx_joinGroups_15 : decode bEx_joinGroups 15 = .ok (.iaload, 1) := by decide +kernel
theorem dEx_joinGroups_16 : decode bEx_joinGroups 16 = .ok (.iload_n 2, 1) := by decide +kernel
theorem dEx_joinGroups_17 : decode bEx_joinGroups 17 = .ok (.if_icmp .ne (10), 3) := by decide +kernel
theorem dEx_joinGroups_20 : decode bEx_joinGroups 20 = .ok (.aload_n 0, 1) := by decide +kernel
theorem dEx_joinGroups_21 : decode bEx_joinGroups 21 = .ok (.getfield 27, 3) := by decide +kernel
theorem dEx_joinGroups_24 : decode bEx_joinGroups 24 = .ok (.iload_n 3, 1) := by decide +kernel
theorem dEx_joinGroups_25 : decode bEx_joinGroups 25 = .ok (.iload_n 1, 1) := by decide +kernel
theorem dEx_joinGroups_26 : decode bEx_joinGroups 26 = .ok (.iastore, 1) := by decide +kernel
theorem dEx_joinGroups_27 : decode bEx_joinGroups 27 = .ok (.iinc 3 (1), 3) := by decide +kernel
theorem dEx_joinGroups_30 : decode bEx_joinGroups 30 = .ok (.goto (-28), 3) := by decide +kernel
theorem dEx_joinGroups_33 : decode bEx_joinGroups 33 = .ok (.return_, 1) := by decide +kernel
theorem dTe_init_0 : decode bTe_init 0 = .ok (.aload_n 0, 1) := by decide +kernel
theorem dTe_init_1 : decode bTe_init 1 = .ok (.invokespecial 3, 3) := by decide +kernel
theorem dTe_init_4 : decode bTe_init 4 = .ok (.aload_n 0, 1) := by decide +kernel
theorem dTe_init_5 : decode bTe_init 5 = .ok (.aload_n 1, 1) := by decide +kernel
theorem dTe_init_6 : decode bTe_init 6 = .ok (.putfield 9, 3) := by decide +kernel
theorem dTe_init_9 : decode bTe_init 9 = .ok (.aload_n 0, 1) := by decide +kernel
theorem dTe_init_10 : decode bTe_init 10 = .ok (.iload_n 2, 1) := by decide +kernel
theorem dTe_init_11 : decode bTe_init 11 = .ok (.putfield 15, 3) := by decide +kernel
theorem dTe_init_14 : decode bTe_init 14 = .ok (.aload_n 0, 1) := by decide +kernel
theorem dTe_init_15 : decode bTe_init 15 = .ok (.iload_n 2, 1) := by decide +kernel
theorem dTe_init_16 : decode bTe_init 16 = .ok (.newarray .int, 2) := by decide +kernel
theorem dTe_init_18 : decode bTe_init 18 = .ok (.putfield 19, 3) := by decide +kernel
theorem dTe_init_21 : decode bTe_init 21 = .ok (.aload_n 0, 1) := by decide +kernel
theorem dTe_init_22 : decode bTe_init 22 = .ok (.iload_n 2, 1) := by decide +kernel
theorem dTe_init_23 : decode bTe_init 23 = .ok (.newarray .int, 2) := by decide +kernel
theorem dTe_init_25 : decode bTe_init 25 = .ok (.putfield 23, 3) := by decide +kernel
theorem dTe_init_28 : decode bTe_init 28 = .ok (.aload_n 0, 1) := by decide +kernel
theorem dTe_init_29 : decode bTe_init 29 = .ok (.aload_n 1, 1) := by decide +kernel
theorem dTe_init_30 : decode bTe_init 30 = .ok (.getfield 26, 3) := by decide +kernel
theorem dTe_init_33 : decode bTe_init 33 = .ok (.newarray .int, 2) := by decide +kernel
theorem dTe_init_35 : decode bTe_init 35 = .ok (.putfield 31, 3) := by decide +kernel
theorem dTe_init_38 : decode bTe_init 38 = .ok (.aload_n 0, 1) := by decide +kernel
theorem dTe_init_39 : decode bTe_init 39 = .ok (.iconst 1, 1) := by decide +kernel
theorem dTe_init_40 : decode bTe_init 40 = .ok (.putfield 34, 3) := by decide +kernel
theorem dTe_init_43 : decode bTe_init 43 = .ok (.iconst 0, 1) := by decide +kernel
theorem dTe_init_44 : decode bTe_init 44 = .ok (.istore_n 3, 1) := by decide +kernel
theorem dTe_init_45 : decode bTe_init 45 = .ok (.iload_n 3, 1) := by decide +kernel
theorem dTe_init_46 : decode bTe_init 46 = .ok (.iload_n 2, 1) := by decide +kernel
theorem dTe_init_47 : decode bTe_init 47 = .ok (.if_icmp .ge (16), 3) := by decide +kernel
theorem dTe_init_50 : decode bTe_init 50 = .ok (.aload_n 0, 1) := by decide +kernel
theorem dTe_init_51 : decode bTe_init 51 = .ok (.getfield 19, 3) := by decide +kernel
theorem dTe_init_54 : decode bTe_init 54 = .ok (.iload_n 3, 1) := by decide +kernel
theorem dTe_init_55 : decode bTe_init 55 = .ok (.iload_n 3, 1) := by decide +kernel
theorem dTe_init_56 : decode bTe_init 56 = .ok (.iastore, 1) := by decide +kernel
theorem dTe_init_57 : decode bTe_init 57 = .ok (.iinc 3 (1), 3) := by decide +kernel
theorem dTe_init_60 : decode bTe_init 60 = .ok (.goto (-15), 3) := by decide +kernel
theorem dTe_init_63 : decode bTe_init 63 = .ok (.return_, 1) := by decide +kernel
theorem dTe_bringToFront_0 : decode bTe_bringToFront 0 = .ok (.aload_n 0, 1) := by decide +kernel
theorem dTe_bringToFront_1 : decode bTe_bringToFront 1 = .ok (.iload_n 1, 1) := by decide +kernel
theorem dTe_bringToFront_2 : decode bTe_bringToFront 2 = .ok (.invokevirtual 37, 3) := by decide +kernel
theorem dTe_bringToFront_5 : decode bTe_bringToFront 5 = .ok (.istore_n 2, 1) := by decide +kernel
theorem dTe_bringToFront_6 : decode bTe_bringToFront 6 = .ok (.iload_n 2, 1) := by decide +kernel
theorem dTe_bringToFront_7 : decode bTe_bringToFront 7 = .ok (.istore_n 3, 1) := by decide +kernel
theorem dTe_bringToFront_8 : decode bTe_bringToFront 8 = .ok (.iload_n 3, 1) := by decide +kernel
theorem dTe_bringToFront_9 : decode bTe_bringToFront 9 = .ok (.ifCond .le (23), 3) := by decide +kernel
theorem dTe_bringToFront_12 : decode bTe_bringToFront 12 = .ok (.aload_n 0, 1) := by decide +kernel
theorem dTe_bringToFront_13 : decode bTe_bringToFront 13 = .ok (.getfield 19, 3) := by decide +kernel
theorem dTe_bringToFront_16 : decode bTe_bringToFront 16 = .ok (.iload_n 3, 1) := by decide +kernel
theorem dTe_bringToFront_17 : decode bTe_bringToFront 17 = .ok (.aload_n 0, 1) := by decide +kernel
theorem dTe_bringToFront_18 : decode bTe_bringToFront 18 = .ok (.getfield 19, 3) := by decide +kernel
theorem dTe_bringToFront_21 : decode bTe_bringToFront 21 = .ok (.iload_n 3, 1) := by decide +kernel
theorem dTe_bringToFront_22 : decode bTe_bringToFront 22 = .ok (.iconst 1, 1) := by decide +kernel
theorem dTe_bringToFront_23 : decode bTe_bringToFront 23 = .ok (.isub, 1) := by decide +kernel
theorem dTe_bringToFront_24 : decode bTe_bringToFront 24 = .ok (.iaload, 1) := by decide +kernel
theorem dTe_bringToFront_25 : decode bTe_bringToFront 25 = .ok (.iastore, 1) := by decide +kernel
theorem dTe_bringToFront_26 : decode bTe_bringToFront 26 = .ok (.iinc 3 (-1), 3) := by decide +kernel
theorem dTe_bringToFront_29 : decode bTe_bringToFront 29 = .ok (.goto (-21), 3) := by decide +kernel
theorem dTe_bringToFront_32 : decode bTe_bringToFront 32 = .ok (.aload_n 0, 1) := by decide +kernel
theorem dTe_bringToFront_33 : decode bTe_bringToFront 33 = .ok (.getfield 19, 3) := by decide +kernel
theorem dTe_bringToFront_36 : decode bTe_bringToFront 36 = .ok (.iconst 0, 1) := by decide +kernel
theorem dTe_bringToFront_37 : decode bTe_bringToFront 37 = .ok (.iload_n 1, 1) := by decide +kernel
theorem dTe_bringToFront_38 : decode bTe_bringToFront 38 = .ok (.iastore, 1) := by decide +kernel
theorem dTe_bringToFront_39 : decode bTe_bringToFront 39 = .ok (.iload_n 2, 1) := by decide +kernel
theorem dTe_bringToFront_40 : decode bTe_bringToFront 40 = .ok (.ireturn, 1) := by decide +kernel
theorem dTe_placeOf_0 : decode bTe_placeOf 0 = .ok (.iconst 0, 1) := by decide +kernel
theorem dTe_placeOf_1 : decode bTe_placeOf 1 = .ok (.istore_n 2, 1) := by decide +kernel
theorem dTe_placeOf_2 : decode bTe_placeOf 2 = .ok (.iload_n 2, 1) := by decide +kernel
theorem dTe_placeOf_3 : decode bTe_placeOf 3 = .ok (.aload_n 0, 1) := by decide +kernel
theorem dTe_placeOf_4 : decode bTe_placeOf 4 = .ok (.getfield 15, 3) := by decide +kernel
theorem dTe_placeOf_7 : decode bTe_placeOf 7 = .ok (.iconst 1, 1) := by decide +kernel
theorem dTe_placeOf_8 : decode bTe_placeOf 8 = .ok (.isub, 1) := by decide +kernel
theorem dTe_placeOf_9 : decode bTe_placeOf 9 = .ok (.if_icmp .ge (19), 3) := by decide +kernel
theorem dTe_placeOf_12 : decode bTe_placeOf 12 = .ok (.aload_n 0, 1) := by decide +kernel
theorem dTe_placeOf_13 : decode bTe_placeOf 13 = .ok (.getfield 19, 3) := by decide +kernel
theorem dTe_placeOf_16 : decode bTe_placeOf 16 = .ok (.iload_n 2, 1) := by decide +kernel
theorem dTe_placeOf_17 : decode bTe_placeOf 17 = .ok (.iaload, 1) := by decide +kernel
theorem dTe_placeOf_18 : decode bTe_placeOf 18 = .ok (.iload_n 1, 1) := by decide +kernel
theorem dTe_placeOf_19 : decode bTe_placeOf 19 = .ok (.if_icmp .eq (9), 3) := by decide +kernel
theorem dTe_placeOf_22 : decode bTe_placeOf 22 = .ok (.iinc 2 (1), 3) := by decide +kernel
theorem dTe_placeOf_25 : decode bTe_placeOf 25 = .ok (.goto (-23), 3) := by decide +kernel
theorem dTe_placeOf_28 : decode bTe_placeOf 28 = .ok (.iload_n 2, 1) := by decide +kernel
theorem dTe_placeOf_29 : decode bTe_placeOf 29 = .ok (.ireturn, 1) := by decide +kernel
theorem dTe_votesFor_0 : decode bTe_votesFor 0 = .ok (.aload_n 0, 1) := by decide +kernel
theorem dTe_votesFor_1 : decode bTe_votesFor 1 = .ok (.iload_n 1, 1) := by decide +kernel
theorem dTe_votesFor_2 : decode bTe_votesFor 2 = .ok (.iconst 0, 1) := by decide +kernel
theorem dTe_votesFor_3 : decode bTe_votesFor 3 = .ok (.aload_n 0, 1) := by decide +kernel
theorem dTe_votesFor_4 : decode bTe_votesFor 4 = .ok (.getfield 9, 3) := by decide +kernel
theorem dTe_votesFor_7 : decode bTe_votesFor 7 = .ok (.getfield 26, 3) := by decide +kernel
theorem dTe_votesFor_10 : decode bTe_votesFor 10 = .ok (.invokevirtual 41, 3) := by decide +kernel
theorem dTe_votesFor_13 : decode bTe_votesFor 13 = .ok (.aload_n 0, 1) := by decide +kernel
theorem dTe_votesFor_14 : decode bTe_votesFor 14 = .ok (.getfield 23, 3) := by decide +kernel
theorem dTe_votesFor_17 : decode bTe_votesFor 17 = .ok (.iload_n 2, 1) := by decide +kernel
theorem dTe_votesFor_18 : decode bTe_votesFor 18 = .ok (.iaload, 1) := by decide +kernel
theorem dTe_votesFor_19 : decode bTe_votesFor 19 = .ok (.ireturn, 1) := by decide +kernel
theorem dTe_told_0 : decode bTe_told 0 = .ok (.aload_n 0, 1) := by decide +kernel
theorem dTe_told_1 : decode bTe_told 1 = .ok (.iload_n 1, 1) := by decide +kernel
theorem dTe_told_2 : decode bTe_told 2 = .ok (.iconst 0, 1) := by decide +kernel
theorem dTe_told_3 : decode bTe_told 3 = .ok (.aload_n 0, 1) := by decide +kernel
theorem dTe_told_4 : decode bTe_told 4 = .ok (.getfield 9, 3) := by decide +kernel
theorem dTe_told_7 : decode bTe_told 7 = .ok (.getfield 26, 3) := by decide +kernel
theorem dTe_told_10 : decode bTe_told 10 = .ok (.invokevirtual 45, 3) := by decide +kernel
theorem dTe_told_13 : decode bTe_told 13 = .ok (.ireturn, 1) := by decide +kernel
theorem dTe_takeVotes_0 : decode bTe_takeVotes 0 = .ok (.iconst 0, 1) := by decide +kernel
theorem dTe_takeVotes_1 : decode bTe_takeVotes 1 = .ok (.istore 4, 2) := by decide +kernel
theorem dTe_takeVotes_3 : decode bTe_takeVotes 3 = .ok (.iload 4, 2) := by decide +kernel
theorem dTe_takeVotes_5 : decode bTe_takeVotes 5 = .ok (.aload_n 0, 1) := by decide +kernel
theorem dTe_takeVotes_6 : decode bTe_takeVotes 6 = .ok (.getfield 15, 3) := by decide +kernel
theorem dTe_takeVotes_9 : decode bTe_takeVotes 9 = .ok (.if_icmp .ge (17), 3) := by decide +kernel
theorem dTe_takeVotes_12 : decode bTe_takeVotes 12 = .ok (.aload_n 0, 1) := by decide +kernel
theorem dTe_takeVotes_13 : decode bTe_takeVotes 13 = .ok (.getfield 23, 3) := by decide +kernel
theorem dTe_takeVotes_16 : decode bTe_takeVotes 16 = .ok (.iload 4, 2) := by decide +kernel
theorem dTe_takeVotes_18 : decode bTe_takeVotes 18 = .ok (.iconst 0, 1) := by decide +kernel
theorem dTe_takeVotes_19 : decode bTe_takeVotes 19 = .ok (.iastore, 1) := by decide +kernel
theorem dTe_takeVotes_20 : decode bTe_takeVotes 20 = .ok (.iinc 4 (1), 3) := by decide +kernel
theorem dTe_takeVotes_23 : decode bTe_takeVotes 23 = .ok (.goto (-20), 3) := by decide +kernel
theorem dTe_takeVotes_26 : decode bTe_takeVotes 26 = .ok (.iconst 0, 1) := by decide +kernel
theorem dTe_takeVotes_27 : decode bTe_takeVotes 27 = .ok (.istore 4, 2) := by decide +kernel
theorem dTe_takeVotes_29 : decode bTe_takeVotes 29 = .ok (.iload 4, 2) := by decide +kernel
theorem dTe_takeVotes_31 : decode bTe_takeVotes 31 = .ok (.aload_n 0, 1) := by decide +kernel
theorem dTe_takeVotes_32 : decode bTe_takeVotes 32 = .ok (.getfield 9, 3) := by decide +kernel
theorem dTe_takeVotes_35 : decode bTe_takeVotes 35 = .ok (.getfield 49, 3) := by decide +kernel
theorem dTe_takeVotes_38 : decode bTe_takeVotes 38 = .ok (.if_icmp .ge (55), 3) := by decide +kernel
theorem dTe_takeVotes_41 : decode bTe_takeVotes 41 = .ok (.aload_n 0, 1) := by decide +kernel
theorem dTe_takeVotes_42 : decode bTe_takeVotes 42 = .ok (.getfield 9, 3) := by decide +kernel
theorem dTe_takeVotes_45 : decode bTe_takeVotes 45 = .ok (.getfield 52, 3) := by decide +kernel
theorem dTe_takeVotes_48 : decode bTe_takeVotes 48 = .ok (.iload 4, 2) := by decide +kernel
theorem dTe_takeVotes_50 : decode bTe_takeVotes 50 = .ok (.iaload, 1) := by decide +kernel
theorem dTe_takeVotes_51 : decode bTe_takeVotes 51 = .ok (.istore 5, 2) := by decide +kernel
theorem dTe_takeVotes_53 : decode bTe_takeVotes 53 = .ok (.iload 4, 2) := by decide +kernel
theorem dTe_takeVotes_55 : decode bTe_takeVotes 55 = .ok (.iload_n 1, 1) := by decide +kernel
theorem dTe_takeVotes_56 : decode bTe_takeVotes 56 = .ok (.if_icmp .eq (31), 3) := by decide +kernel
theorem dTe_takeVotes_59 : decode bTe_takeVotes 59 = .ok (.iload 5, 2) := by decide +kernel
theorem dTe_takeVotes_61 : decode bTe_takeVotes 61 = .ok (.iconst (-1), 1) := by decide +kernel
theorem dTe_takeVotes_62 : decode bTe_takeVotes 62 = .ok (.if_icmp .eq (25), 3) := by decide +kernel
theorem dTe_takeVotes_65 : decode bTe_takeVotes 65 = .ok (.aload_n 0, 1) := by decide +kernel
theorem dTe_takeVotes_66 : decode bTe_takeVotes 66 = .ok (.getfield 23, 3) := by decide +kernel
theorem dTe_takeVotes_69 : decode bTe_takeVotes 69 = .ok (.iload 5, 2) := by decide +kernel
theorem dTe_takeVotes_71 : decode bTe_takeVotes 71 = .ok (.dup2, 1) := by decide +kernel
theorem dTe_takeVotes_72 : decode bTe_takeVotes 72 = .ok (.iaload, 1) := by decide +kernel
theorem dTe_takeVotes_73 : decode bTe_takeVotes 73 = .ok (.aload_n 0, 1) := by decide +kernel
theorem dTe_takeVotes_74 : decode bTe_takeVotes 74 = .ok (.getfield 9, 3) := by decide +kernel
theorem dTe_takeVotes_77 : decode bTe_takeVotes 77 = .ok (.iload_n 1, 1) := by decide +kernel
theorem dTe_takeVotes_78 : decode bTe_takeVotes 78 = .ok (.iload 4, 2) := by decide +kernel
theorem dTe_takeVotes_80 : decode bTe_takeVotes 80 = .ok (.iload_n 2, 1) := by decide +kernel
theorem dTe_takeVotes_81 : decode bTe_takeVotes 81 = .ok (.iload_n 3, 1) := by decide +kernel
theorem dTe_takeVotes_82 : decode bTe_takeVotes 82 = .ok (.invokevirtual 55, 3) := by decide +kernel
theorem dTe_takeVotes_85 : decode bTe_takeVotes 85 = .ok (.iadd, 1) := by decide +kernel
theorem dTe_takeVotes_86 : decode bTe_takeVotes 86 = .ok (.iastore, 1) := by decide +kernel
theorem dTe_takeVotes_87 : decode bTe_takeVotes 87 = .ok (.iinc 4 (1), 3) := by decide +kernel
theorem dTe_takeVotes_90 : decode bTe_takeVotes 90 = .ok (.goto (-61), 3) := by decide +kernel
theorem dTe_takeVotes_93 : decode bTe_takeVotes 93 = .ok (.return_, 1) := by decide +kernel
theorem dTe_toldBy_0 : decode bTe_toldBy 0 = .ok (.aload_n 0, 1) := by decide +kernel
theorem dTe_toldBy_1 : decode bTe_toldBy 1 = .ok (.iload_n 1, 1) := by decide +kernel
theorem dTe_toldBy_2 : decode bTe_toldBy 2 = .ok (.iload_n 2, 1) := by decide +kernel
theorem dTe_toldBy_3 : decode bTe_toldBy 3 = .ok (.iload_n 3, 1) := by decide +kernel
theorem dTe_toldBy_4 : decode bTe_toldBy 4 = .ok (.invokevirtual 41, 3) := by decide +kernel
theorem dTe_toldBy_7 : decode bTe_toldBy 7 = .ok (.aload_n 0, 1) := by decide +kernel
theorem dTe_toldBy_8 : decode bTe_toldBy 8 = .ok (.getfield 19, 3) := by decide +kernel
theorem dTe_toldBy_11 : decode bTe_toldBy 11 = .ok (.iconst 0, 1) := by decide +kernel
end
section
theorem dTe_toldBy_12 : decode bTe_toldBy 12 = .ok (.iaload, 1) := by decide +kernel
theorem dTe_toldBy_13 : decode bTe_toldBy 13 = .ok (.istore 4, 2) := by decide +kernel
theorem dTe_toldBy_15 : decode bTe_toldBy 15 = .ok (.iconst 1, 1) := by decide +kernel
theorem dTe_toldBy_16 : decode bTe_toldBy 16 = .ok (.istore 5, 2) := by decide +kernel
theorem dTe_toldBy_18 : decode bTe_toldBy 18 = .ok (.iload 5, 2) := by decide +kernel
theorem dTe_toldBy_20 : decode bTe_toldBy 20 = .ok (.aload_n 0, 1) := by decide +kernel
theorem dTe_toldBy_21 : decode bTe_toldBy 21 = .ok (.getfield 15, 3) := by decide +kernel
theorem dTe_toldBy_24 : decode bTe_toldBy 24 = .ok (.if_icmp .ge (40), 3) := by decide +kernel
theorem dTe_toldBy_27 : decode bTe_toldBy 27 = .ok (.aload_n 0, 1) := by decide +kernel
theorem dTe_toldBy_28 : decode bTe_toldBy 28 = .ok (.getfield 23, 3) := by decide +kernel
theorem dTe_toldBy_31 : decode bTe_toldBy 31 = .ok (.aload_n 0, 1) := by decide +kernel
theorem dTe_toldBy_32 : decode bTe_toldBy 32 = .ok (.getfield 19, 3) := by decide +kernel
theorem dTe_toldBy_35 : decode bTe_toldBy 35 = .ok (.iload 5, 2) := by decide +kernel
theorem dTe_toldBy_37 : decode bTe_toldBy 37 = .ok (.iaload, 1) := by decide +kernel
theorem dTe_toldBy_38 : decode bTe_toldBy 38 = .ok (.iaload, 1) := by decide +kernel
theorem dTe_toldBy_39 : decode bTe_toldBy 39 = .ok (.aload_n 0, 1) := by decide +kernel
theorem dTe_toldBy_40 : decode bTe_toldBy 40 = .ok (.getfield 23, 3) := by decide +kernel
theorem dTe_toldBy_43 : decode bTe_toldBy 43 = .ok (.iload 4, 2) := by decide +kernel
theorem dTe_toldBy_45 : decode bTe_toldBy 45 = .ok (.iaload, 1) := by decide +kernel
theorem dTe_toldBy_46 : decode bTe_toldBy 46 = .ok (.if_icmp .le (12), 3) := by decide +kernel
theorem dTe_toldBy_49 : decode bTe_toldBy 49 = .ok (.aload_n 0, 1) := by decide +kernel
theorem dTe_toldBy_50 : decode bTe_toldBy 50 = .ok (.getfield 19, 3) := by decide +kernel
theorem dTe_toldBy_53 : decode bTe_toldBy 53 = .ok (.iload 5, 2) := by decide +kernel
theorem dTe_toldBy_55 : decode bTe_toldBy 55 = .ok (.iaload, 1) := by decide +kernel
theorem dTe_toldBy_56 : decode bTe_toldBy 56 = .ok (.istore 4, 2) := by decide +kernel
theorem dTe_toldBy_58 : decode bTe_toldBy 58 = .ok (.iinc 5 (1), 3) := by decide +kernel
theorem dTe_toldBy_61 : decode bTe_toldBy 61 = .ok (.goto (-43), 3) := by decide +kernel
theorem dTe_toldBy_64 : decode bTe_toldBy 64 = .ok (.aload_n 0, 1) := by decide +kernel
theorem dTe_toldBy_65 : decode bTe_toldBy 65 = .ok (.getfield 23, 3) := by decide +kernel
theorem dTe_toldBy_68 : decode bTe_toldBy 68 = .ok (.iload 4, 2) := by decide +kernel
theorem dTe_toldBy_70 : decode bTe_toldBy 70 = .ok (.iaload, 1) := by decide +kernel
theorem dTe_toldBy_71 : decode bTe_toldBy 71 = .ok (.aload_n 0, 1) := by decide +kernel
theorem dTe_toldBy_72 : decode bTe_toldBy 72 = .ok (.getfield 34, 3) := by decide +kernel
theorem dTe_toldBy_75 : decode bTe_toldBy 75 = .ok (.if_icmp .ge (7), 3) := by decide +kernel
theorem dTe_toldBy_78 : decode bTe_toldBy 78 = .ok (.iconst (-1), 1) := by decide +kernel
theorem dTe_toldBy_79 : decode bTe_toldBy 79 = .ok (.goto (5), 3) := by decide +kernel
theorem dTe_toldBy_82 : decode bTe_toldBy 82 = .ok (.iload 4, 2) := by decide +kernel
theorem dTe_toldBy_84 : decode bTe_toldBy 84 = .ok (.ireturn, 1) := by decide +kernel
theorem dTe_countTold_0 : decode bTe_countTold 0 = .ok (.iconst 0, 1) := by decide +kernel
theorem dTe_countTold_1 : decode bTe_countTold 1 = .ok (.istore_n 3, 1) := by decide +kernel
theorem dTe_countTold_2 : decode bTe_countTold 2 = .ok (.iconst 0, 1) := by decide +kernel
theorem dTe_countTold_3 : decode bTe_countTold 3 = .ok (.istore 4, 2) := by decide +kernel
theorem dTe_countTold_5 : decode bTe_countTold 5 = .ok (.iload 4, 2) := by decide +kernel
theorem dTe_countTold_7 : decode bTe_countTold 7 = .ok (.aload_n 0, 1) := by decide +kernel
theorem dTe_countTold_8 : decode bTe_countTold 8 = .ok (.getfield 9, 3) := by decide +kernel
theorem dTe_countTold_11 : decode bTe_countTold 11 = .ok (.getfield 49, 3) := by decide +kernel
theorem dTe_countTold_14 : decode bTe_countTold 14 = .ok (.if_icmp .ge (36), 3) := by decide +kernel
theorem dTe_countTold_17 : decode bTe_countTold 17 = .ok (.aload_n 0, 1) := by decide +kernel
theorem dTe_countTold_18 : decode bTe_countTold 18 = .ok (.getfield 9, 3) := by decide +kernel
theorem dTe_countTold_21 : decode bTe_countTold 21 = .ok (.getfield 52, 3) := by decide +kernel
theorem dTe_countTold_24 : decode bTe_countTold 24 = .ok (.iload 4, 2) := by decide +kernel
theorem dTe_countTold_26 : decode bTe_countTold 26 = .ok (.iaload, 1) := by decide +kernel
theorem dTe_countTold_27 : decode bTe_countTold 27 = .ok (.iload_n 1, 1) := by decide +kernel
theorem dTe_countTold_28 : decode bTe_countTold 28 = .ok (.if_icmp .ne (16), 3) := by decide +kernel
theorem dTe_countTold_31 : decode bTe_countTold 31 = .ok (.aload_n 0, 1) := by decide +kernel
theorem dTe_countTold_32 : decode bTe_countTold 32 = .ok (.iload 4, 2) := by decide +kernel
theorem dTe_countTold_34 : decode bTe_countTold 34 = .ok (.invokevirtual 59, 3) := by decide +kernel
theorem dTe_countTold_37 : decode bTe_countTold 37 = .ok (.iload_n 2, 1) := by decide +kernel
theorem dTe_countTold_38 : decode bTe_countTold 38 = .ok (.if_icmp .ne (6), 3) := by decide +kernel
theorem dTe_countTold_41 : decode bTe_countTold 41 = .ok (.iinc 3 (1), 3) := by decide +kernel
theorem dTe_countTold_44 : decode bTe_countTold 44 = .ok (.iinc 4 (1), 3) := by decide +kernel
theorem dTe_countTold_47 : decode bTe_countTold 47 = .ok (.goto (-42), 3) := by decide +kernel
theorem dTe_countTold_50 : decode bTe_countTold 50 = .ok (.iload_n 3, 1) := by decide +kernel
theorem dTe_countTold_51 : decode bTe_countTold 51 = .ok (.ireturn, 1) := by decide +kernel
theorem dTe_countUnknown_0 : decode bTe_countUnknown 0 = .ok (.iconst 0, 1) := by decide +kernel
theorem dTe_countUnknown_1 : decode bTe_countUnknown 1 = .ok (.istore_n 1, 1) := by decide +kernel
theorem dTe_countUnknown_2 : decode bTe_countUnknown 2 = .ok (.iconst 0, 1) := by decide +kernel
theorem dTe_countUnknown_3 : decode bTe_countUnknown 3 = .ok (.istore_n 2, 1) := by decide +kernel
theorem dTe_countUnknown_4 : decode bTe_countUnknown 4 = .ok (.iload_n 2, 1) := by decide +kernel
theorem dTe_countUnknown_5 : decode bTe_countUnknown 5 = .ok (.aload_n 0, 1) := by decide +kernel
theorem dTe_countUnknown_6 : decode bTe_countUnknown 6 = .ok (.getfield 9, 3) := by decide +kernel
theorem dTe_countUnknown_9 : decode bTe_countUnknown 9 = .ok (.getfield 49, 3) := by decide +kernel
theorem dTe_countUnknown_12 : decode bTe_countUnknown 12 = .ok (.if_icmp .ge (21), 3) := by decide +kernel
theorem dTe_countUnknown_15 : decode bTe_countUnknown 15 = .ok (.aload_n 0, 1) := by decide +kernel
theorem dTe_countUnknown_16 : decode bTe_countUnknown 16 = .ok (.iload_n 2, 1) := by decide +kernel
theorem dTe_countUnknown_17 : decode bTe_countUnknown 17 = .ok (.invokevirtual 59, 3) := by decide +kernel
theorem dTe_countUnknown_20 : decode bTe_countUnknown 20 = .ok (.iconst (-1), 1) := by decide +kernel
theorem dTe_countUnknown_21 : decode bTe_countUnknown 21 = .ok (.if_icmp .ne (6), 3) := by decide +kernel
theorem dTe_countUnknown_24 : decode bTe_countUnknown 24 = .ok (.iinc 1 (1), 3) := by decide +kernel
theorem dTe_countUnknown_27 : decode bTe_countUnknown 27 = .ok (.iinc 2 (1), 3) := by decide +kernel
theorem dTe_countUnknown_30 : decode bTe_countUnknown 30 = .ok (.goto (-26), 3) := by decide +kernel
theorem dTe_countUnknown_33 : decode bTe_countUnknown 33 = .ok (.iload_n 1, 1) := by decide +kernel
theorem dTe_countUnknown_34 : decode bTe_countUnknown 34 = .ok (.ireturn, 1) := by decide +kernel
theorem dTe_rightBy_0 : decode bTe_rightBy 0 = .ok (.iconst 0, 1) := by decide +kernel
theorem dTe_rightBy_1 : decode bTe_rightBy 1 = .ok (.istore_n 2, 1) := by decide +kernel
theorem dTe_rightBy_2 : decode bTe_rightBy 2 = .ok (.iconst 0, 1) := by decide +kernel
theorem dTe_rightBy_3 : decode bTe_rightBy 3 = .ok (.istore_n 3, 1) := by decide +kernel
theorem dTe_rightBy_4 : decode bTe_rightBy 4 = .ok (.iload_n 3, 1) := by decide +kernel
theorem dTe_rightBy_5 : decode bTe_rightBy 5 = .ok (.aload_n 0, 1) := by decide +kernel
theorem dTe_rightBy_6 : decode bTe_rightBy 6 = .ok (.getfield 9, 3) := by decide +kernel
theorem dTe_rightBy_9 : decode bTe_rightBy 9 = .ok (.getfield 49, 3) := by decide +kernel
theorem dTe_rightBy_12 : decode bTe_rightBy 12 = .ok (.if_icmp .ge (43), 3) := by decide +kernel
theorem dTe_rightBy_15 : decode bTe_rightBy 15 = .ok (.aload_n 0, 1) := by decide +kernel
theorem dTe_rightBy_16 : decode bTe_rightBy 16 = .ok (.getfield 9, 3) := by decide +kernel
theorem dTe_rightBy_19 : decode bTe_rightBy 19 = .ok (.getfield 52, 3) := by decide +kernel
theorem dTe_rightBy_22 : decode bTe_rightBy 22 = .ok (.iload_n 3, 1) := by decide +kernel
theorem dTe_rightBy_23 : decode bTe_rightBy 23 = .ok (.iaload, 1) := by decide +kernel
theorem dTe_rightBy_24 : decode bTe_rightBy 24 = .ok (.istore 4, 2) := by decide +kernel
theorem dTe_rightBy_26 : decode bTe_rightBy 26 = .ok (.iload 4, 2) := by decide +kernel
theorem dTe_rightBy_28 : decode bTe_rightBy 28 = .ok (.iconst (-1), 1) := by decide +kernel
theorem dTe_rightBy_29 : decode bTe_rightBy 29 = .ok (.if_icmp .eq (20), 3) := by decide +kernel
theorem dTe_rightBy_32 : decode bTe_rightBy 32 = .ok (.aload_n 0, 1) := by decide +kernel
theorem dTe_rightBy_33 : decode bTe_rightBy 33 = .ok (.iload_n 3, 1) := by decide +kernel
theorem dTe_rightBy_34 : decode bTe_rightBy 34 = .ok (.iload_n 1, 1) := by decide +kernel
theorem dTe_rightBy_35 : decode bTe_rightBy 35 = .ok (.iload_n 1, 1) := by decide +kernel
theorem dTe_rightBy_36 : decode bTe_rightBy 36 = .ok (.iconst 1, 1) := by decide +kernel
theorem dTe_rightBy_37 : decode bTe_rightBy 37 = .ok (.iadd, 1) := by decide +kernel
theorem dTe_rightBy_38 : decode bTe_rightBy 38 = .ok (.invokevirtual 45, 3) := by decide +kernel
theorem dTe_rightBy_41 : decode bTe_rightBy 41 = .ok (.iload 4, 2) := by decide +kernel
theorem dTe_rightBy_43 : decode bTe_rightBy 43 = .ok (.if_icmp .ne (6), 3) := by decide +kernel
theorem dTe_rightBy_46 : decode bTe_rightBy 46 = .ok (.iinc 2 (1), 3) := by decide +kernel
theorem dTe_rightBy_49 : decode bTe_rightBy 49 = .ok (.iinc 3 (1), 3) := by decide +kernel
theorem dTe_rightBy_52 : decode bTe_rightBy 52 = .ok (.goto (-48), 3) := by decide +kernel
theorem dTe_rightBy_55 : decode bTe_rightBy 55 = .ok (.iload_n 2, 1) := by decide +kernel
theorem dTe_rightBy_56 : decode bTe_rightBy 56 = .ok (.ireturn, 1) := by decide +kernel
theorem dTe_featureAt_0 : decode bTe_featureAt 0 = .ok (.iconst 0, 1) := by decide +kernel
theorem dTe_featureAt_1 : decode bTe_featureAt 1 = .ok (.istore_n 2, 1) := by decide +kernel
theorem dTe_featureAt_2 : decode bTe_featureAt 2 = .ok (.iload_n 2, 1) := by decide +kernel
theorem dTe_featureAt_3 : decode bTe_featureAt 3 = .ok (.aload_n 0, 1) := by decide +kernel
theorem dTe_featureAt_4 : decode bTe_featureAt 4 = .ok (.getfield 9, 3) := by decide +kernel
theorem dTe_featureAt_7 : decode bTe_featureAt 7 = .ok (.getfield 26, 3) := by decide +kernel
theorem dTe_featureAt_10 : decode bTe_featureAt 10 = .ok (.if_icmp .ge (20), 3) := by decide +kernel
theorem dTe_featureAt_13 : decode bTe_featureAt 13 = .ok (.aload_n 0, 1) := by decide +kernel
theorem dTe_featureAt_14 : decode bTe_featureAt 14 = .ok (.getfield 31, 3) := by decide +kernel
theorem dTe_featureAt_17 : decode bTe_featureAt 17 = .ok (.iload_n 2, 1) := by decide +kernel
theorem dTe_featureAt_18 : decode bTe_featureAt 18 = .ok (.aload_n 0, 1) := by decide +kernel
theorem dTe_featureAt_19 : decode bTe_featureAt 19 = .ok (.iload_n 2, 1) := by decide +kernel
theorem dTe_featureAt_20 : decode bTe_featureAt 20 = .ok (.invokevirtual 62, 3) := by decide +kernel
theorem dTe_featureAt_23 : decode bTe_featureAt 23 = .ok (.iastore, 1) := by decide +kernel
theorem dTe_featureAt_24 : decode bTe_featureAt 24 = .ok (.iinc 2 (1), 3) := by decide +kernel
theorem dTe_featureAt_27 : decode bTe_featureAt 27 = .ok (.goto (-25), 3) := by decide +kernel
theorem dTe_featureAt_30 : decode bTe_featureAt 30 = .ok (.iconst 0, 1) := by decide +kernel
theorem dTe_featureAt_31 : decode bTe_featureAt 31 = .ok (.istore_n 2, 1) := by decide +kernel
theorem dTe_featureAt_32 : decode bTe_featureAt 32 = .ok (.iload_n 2, 1) := by decide +kernel
theorem dTe_featureAt_33 : decode bTe_featureAt 33 = .ok (.aload_n 0, 1) := by decide +kernel
theorem dTe_featureAt_34 : decode bTe_featureAt 34 = .ok (.getfield 9, 3) := by decide +kernel
theorem dTe_featureAt_37 : decode bTe_featureAt 37 = .ok (.getfield 26, 3) := by decide +kernel
theorem dTe_featureAt_40 : decode bTe_featureAt 40 = .ok (.if_icmp .ge (20), 3) := by decide +kernel
theorem dTe_featureAt_43 : decode bTe_featureAt 43 = .ok (.aload_n 0, 1) := by decide +kernel
theorem dTe_featureAt_44 : decode bTe_featureAt 44 = .ok (.iload_n 2, 1) := by decide +kernel
theorem dTe_featureAt_45 : decode bTe_featureAt 45 = .ok (.invokevirtual 65, 3) := by decide +kernel
theorem dTe_featureAt_48 : decode bTe_featureAt 48 = .ok (.iload_n 1, 1) := by decide +kernel
theorem dTe_featureAt_49 : decode bTe_featureAt 49 = .ok (.if_icmp .ne (5), 3) := by decide +kernel
theorem dTe_featureAt_52 : decode bTe_featureAt 52 = .ok (.iload_n 2, 1) := by decide +kernel
theorem dTe_featureAt_53 : decode bTe_featureAt 53 = .ok (.ireturn, 1) := by decide +kernel
theorem dTe_featureAt_54 : decode bTe_featureAt 54 = .ok (.iinc 2 (1), 3) := by decide +kernel
theorem dTe_featureAt_57 : decode bTe_featureAt 57 = .ok (.goto (-25), 3) := by decide +kernel
theorem dTe_featureAt_60 : decode bTe_featureAt 60 = .ok (.iconst (-1), 1) := by decide +kernel
theorem dTe_featureAt_61 : decode bTe_featureAt 61 = .ok (.ireturn, 1) := by decide +kernel
theorem dTe_countBefore_0 : decode bTe_countBefore 0 = .ok (.iconst 0, 1) := by decide +kernel
theorem dTe_countBefore_1 : decode bTe_countBefore 1 = .ok (.istore_n 2, 1) := by decide +kernel
theorem dTe_countBefore_2 : decode bTe_countBefore 2 = .ok (.iconst 0, 1) := by decide +kernel
theorem dTe_countBefore_3 : decode bTe_countBefore 3 = .ok (.istore_n 3, 1) := by decide +kernel
theorem dTe_countBefore_4 : decode bTe_countBefore 4 = .ok (.iload_n 3, 1) := by decide +kernel
theorem dTe_countBefore_5 : decode bTe_countBefore 5 = .ok (.aload_n 0, 1) := by decide +kernel
theorem dTe_countBefore_6 : decode bTe_countBefore 6 = .ok (.getfield 9, 3) := by decide +kernel
theorem dTe_countBefore_9 : decode bTe_countBefore 9 = .ok (.getfield 26, 3) := by decide +kernel
theorem dTe_countBefore_12 : decode bTe_countBefore 12 = .ok (.if_icmp .ge (59), 3) := by decide +kernel
theorem dTe_countBefore_15 : decode bTe_countBefore 15 = .ok (.aload_n 0, 1) := by decide +kernel
theorem dTe_countBefore_16 : decode bTe_countBefore 16 = .ok (.getfield 31, 3) := by decide +kernel
theorem dTe_countBefore_19 : decode bTe_countBefore 19 = .ok (.iload_n 3, 1) := by decide +kernel
theorem dTe_countBefore_20 : decode bTe_countBefore 20 = .ok (.iaload, 1) := by decide +kernel
theorem dTe_countBefore_21 : decode bTe_countBefore 21 = .ok (.aload_n 0, 1) := by decide +kernel
theorem dTe_countBefore_22 : decode bTe_countBefore 22 = .ok (.getfield 31, 3) := by decide +kernel
theorem dTe_countBefore_25 : decode bTe_countBefore 25 = .ok (.iload_n 1, 1) := by decide +kernel
theorem dTe_countBefore_26 : decode bTe_countBefore 26 = .ok (.iaload, 1) := by decide +kernel
theorem dTe_countBefore_27 : decode bTe_countBefore 27 = .ok (.if_icmp .ne (12), 3) := by decide +kernel
theorem dTe_countBefore_30 : decode bTe_countBefore 30 = .ok (.iload_n 3, 1) := by decide +kernel
theorem dTe_countBefore_31 : decode bTe_countBefore 31 = .ok (.iload_n 1, 1) := by decide +kernel
theorem dTe_countBefore_32 : decode bTe_countBefore 32 = .ok (.if_icmp .ge (7), 3) := by decide +kernel
theorem dTe_countBefore_35 : decode bTe_countBefore 35 = .ok (.iconst 1, 1) := by decide +kernel
theorem dTe_countBefore_36 : decode bTe_countBefore 36 = .ok (.goto (4), 3) := by decide +kernel
theorem dTe_countBefore_39 : decode bTe_countBefore 39 = .ok (.iconst 0, 1) := by decide +kernel
theorem dTe_countBefore_40 : decode bTe_countBefore 40 = .ok (.istore 4, 2) := by decide +kernel
theorem dTe_countBefore_42 : decode bTe_countBefore 42 = .ok (.aload_n 0, 1) := by decide +kernel
theorem dTe_countBefore_43 : decode bTe_countBefore 43 = .ok (.getfield 31, 3) := by decide +kernel
theorem dTe_countBefore_46 : decode bTe_countBefore 46 = .ok (.iload_n 3, 1) := by decide +kernel
theorem dTe_countBefore_47 : decode bTe_countBefore 47 = .ok (.iaload, 1) := by decide +kernel
theorem dTe_countBefore_48 : decode bTe_countBefore 48 = .ok (.aload_n 0, 1) := by decide +kernel
theorem dTe_countBefore_49 : decode bTe_countBefore 49 = .ok (.getfield 31, 3) := by decide +kernel
theorem dTe_countBefore_52 : decode bTe_countBefore 52 = .ok (.iload_n 1, 1) := by decide +kernel
theorem dTe_countBefore_53 : decode bTe_countBefore 53 = .ok (.iaload, 1) := by decide +kernel
theorem dTe_countBefore_54 : decode bTe_countBefore 54 = .ok (.if_icmp .gt (8), 3) := by decide +kernel
theorem dTe_countBefore_57 : decode bTe_countBefore 57 = .ok (.iload 4, 2) := by decide +kernel
theorem dTe_countBefore_59 : decode bTe_countBefore 59 = .ok (.ifCond .eq (6), 3) := by decide +kernel
theorem dTe_countBefore_62 : decode bTe_countBefore 62 = .ok (.iinc 2 (1), 3) := by decide +kernel
theorem dTe_countBefore_65 : decode bTe_countBefore 65 = .ok (.iinc 3 (1), 3) := by decide +kernel
theorem dTe_countBefore_68 : decode bTe_countBefore 68 = .ok (.goto (-64), 3) := by decide +kernel
theorem dTe_countBefore_71 : decode bTe_countBefore 71 = .ok (.iload_n 2, 1) := by decide +kernel
theorem dTe_countBefore_72 : decode bTe_countBefore 72 = .ok (.ireturn, 1) := by decide +kernel
theorem dHa_init_0 : decode bHa_init 0 = .ok (.aload_n 0, 1) := by decide +kernel
theorem dHa_init_1 : decode bHa_init 1 = .ok (.invokespecial 3, 3) := by decide +kernel
theorem dHa_init_4 : decode bHa_init 4 = .ok (.aload_n 0, 1) := by decide +kernel
theorem dHa_init_5 : decode bHa_init 5 = .ok (.iload_n 1, 1) := by decide +kernel
theorem dHa_init_6 : decode bHa_init 6 = .ok (.putfield 9, 3) := by decide +kernel
theorem dHa_init_9 : decode bHa_init 9 = .ok (.aload_n 0, 1) := by decide +kernel
theorem dHa_init_10 : decode bHa_init 10 = .ok (.bipush (12), 2) := by decide +kernel
theorem dHa_init_12 : decode bHa_init 12 = .ok (.newarray .int, 2) := by decide +kernel
theorem dHa_init_14 : decode bHa_init 14 = .ok (.putfield 15, 3) := by decide +kernel
theorem dHa_init_17 : decode bHa_init 17 = .ok (.aload_n 0, 1) := by decide +kernel
theorem dHa_init_18 : decode bHa_init 18 = .ok (.bipush (12), 2) := by decide +kernel
theorem dHa_init_20 : decode bHa_init 20 = .ok (.newarray .int, 2) := by decide +kernel
theorem dHa_init_22 : decode bHa_init 22 = .ok (.putfield 19, 3) := by decide +kernel
theorem dHa_init_25 : decode bHa_init 25 = .ok (.aload_n 0, 1) := by decide +kernel
theorem dHa_init_26 : decode bHa_init 26 = .ok (.bipush (12), 2) := by decide +kernel
theorem dHa_init_28 : decode bHa_init 28 = .ok (.iload_n 1, 1) := by decide +kernel
theorem dHa_init_29 : decode bHa_init 29 = .ok (.multianewarray 22 2, 4) := by decide +kernel
theorem dHa_init_33 : decode bHa_init 33 = .ok (.putfield 24, 3) := by decide +kernel
theorem dHa_init_36 : decode bHa_init 36 = .ok (.return_, 1) := by decide +kernel
theorem dHa_add_0 : decode bHa_add 0 = .ok (.aload_n 0, 1) := by decide +kernel
theorem dHa_add_1 : decode bHa_add 1 = .ok (.getfield 15, 3) := by decide +kernel
theorem dHa_add_4 : decode bHa_add 4 = .ok (.aload_n 0, 1) := by decide +kernel
theorem dHa_add_5 : decode bHa_add 5 = .ok (.getfield 27, 3) := by decide +kernel
theorem dHa_add_8 : decode bHa_add 8 = .ok (.iload_n 1, 1) := by decide +kernel
theorem dHa_add_9 : decode bHa_add 9 = .ok (.iastore, 1) := by decide +kernel
theorem dHa_add_10 : decode bHa_add 10 = .ok (.aload_n 0, 1) := by decide +kernel
theorem dHa_add_11 : decode bHa_add 11 = .ok (.getfield 19, 3) := by decide +kernel
theorem dHa_add_14 : decode bHa_add 14 = .ok (.aload_n 0, 1) := by decide +kernel
theorem dHa_add_15 : decode bHa_add 15 = .ok (.getfield 27, 3) := by decide +kernel
theorem dHa_add_18 : decode bHa_add 18 = .ok (.iload_n 2, 1) := by decide +kernel
theorem dHa_add_19 : decode bHa_add 19 = .ok (.iastore, 1) := by decide +kernel
theorem dHa_add_20 : decode bHa_add 20 = .ok (.aload_n 0, 1) := by decide +kernel
theorem dHa_add_21 : decode bHa_add 21 = .ok (.dup, 1) := by decide +kernel
theorem dHa_add_22 : decode bHa_add 22 = .ok (.getfield 27, 3) := by decide +kernel
theorem dHa_add_25 : decode bHa_add 25 = .ok (.iconst 1, 1) := by decide +kernel
theorem dHa_add_26 : decode bHa_add 26 = .ok (.iadd, 1) := by decide +kernel
theorem dHa_add_27 : decode bHa_add 27 = .ok (.putfield 27, 3) := by decide +kernel
theorem dHa_add_30 : decode bHa_add 30 = .ok (.aload_n 0, 1) := by decide +kernel
theorem dHa_add_31 : decode bHa_add 31 = .ok (.getfield 27, 3) := by decide +kernel
theorem dHa_add_34 : decode bHa_add 34 = .ok (.iconst 1, 1) := by decide +kernel
theorem dHa_add_35 : decode bHa_add 35 = .ok (.isub, 1) := by decide +kernel
theorem dHa_add_36 : decode bHa_add 36 = .ok (.ireturn, 1) := by decide +kernel
theorem dHa_sharePart_0 : decode bHa_sharePart 0 = .ok (.aload_n 0, 1) := by decide +kernel
theorem dHa_sharePart_1 : decode bHa_sharePart 1 = .ok (.iload_n 1, 1) := by decide +kernel
theorem dHa_sharePart_2 : decode bHa_sharePart 2 = .ok (.iload_n 2, 1) := by decide +kernel
theorem dHa_sharePart_3 : decode bHa_sharePart 3 = .ok (.iconst (-1), 1) := by decide +kernel
theorem dHa_sharePart_4 : decode bHa_sharePart 4 = .ok (.invokevirtual 30, 3) := by decide +kernel
theorem dHa_sharePart_7 : decode bHa_sharePart 7 = .ok (.istore 5, 2) := by decide +kernel
theorem dHa_sharePart_9 : decode bHa_sharePart 9 = .ok (.iload 5, 2) := by decide +kernel
theorem dHa_sharePart_11 : decode bHa_sharePart 11 = .ok (.iconst (-1), 1) := by decide +kernel
theorem dHa_sharePart_12 : decode bHa_sharePart 12 = .ok (.if_icmp .ne (11), 3) := by decide +kernel
theorem dHa_sharePart_15 : decode bHa_sharePart 15 = .ok (.lconst 0, 1) := by decide +kernel
theorem dHa_sharePart_16 : decode bHa_sharePart 16 = .ok (.lconst 0, 1) := by decide +kernel
theorem dHa_sharePart_17 : decode bHa_sharePart 17 = .ok (.iload 4, 2) := by decide +kernel
theorem dHa_sharePart_19 : decode bHa_sharePart 19 = .ok (.invokestatic 34, 3) := by decide +kernel
theorem dHa_sharePart_22 : decode bHa_sharePart 22 = .ok (.lreturn, 1) := by decide +kernel
theorem dHa_sharePart_23 : decode bHa_sharePart 23 = .ok (.aload_n 0, 1) := by decide +kernel
theorem dHa_sharePart_24 : decode bHa_sharePart 24 = .ok (.iload_n 1, 1) := by decide +kernel
theorem dHa_sharePart_25 : decode bHa_sharePart 25 = .ok (.iload_n 2, 1) := by decide +kernel
theorem dHa_sharePart_26 : decode bHa_sharePart 26 = .ok (.iload 5, 2) := by decide +kernel
theorem dHa_sharePart_28 : decode bHa_sharePart 28 = .ok (.invokevirtual 30, 3) := by decide +kernel
theorem dHa_sharePart_31 : decode bHa_sharePart 31 = .ok (.istore 6, 2) := by decide +kernel
theorem dHa_sharePart_33 : decode bHa_sharePart 33 = .ok (.iload 6, 2) := by decide +kernel
theorem dHa_sharePart_35 : decode bHa_sharePart 35 = .ok (.iconst (-1), 1) := by decide +kernel
theorem dHa_sharePart_36 : decode bHa_sharePart 36 = .ok (.if_icmp .ne (26), 3) := by decide +kernel
theorem dHa_sharePart_39 : decode bHa_sharePart 39 = .ok (.aload_n 0, 1) := by decide +kernel
theorem dHa_sharePart_40 : decode bHa_sharePart 40 = .ok (.getfield 24, 3) := by decide +kernel
theorem dHa_sharePart_43 : decode bHa_sharePart 43 = .ok (.iload 5, 2) := by decide +kernel
theorem dHa_sharePart_45 : decode bHa_sharePart 45 = .ok (.aaload, 1) := by decide +kernel
theorem dHa_sharePart_46 : decode bHa_sharePart 46 = .ok (.iload_n 3, 1) := by decide +kernel
theorem dHa_sharePart_47 : decode bHa_sharePart 47 = .ok (.iaload, 1) := by decide +kernel
theorem dHa_sharePart_48 : decode bHa_sharePart 48 = .ok (.i2l, 1) := by decide +kernel
theorem dHa_sharePart_49 : decode bHa_sharePart 49 = .ok (.aload_n 0, 1) := by decide +kernel
theorem dHa_sharePart_50 : decode bHa_sharePart 50 = .ok (.iload 5, 2) := by decide +kernel
theorem dHa_sharePart_52 : decode bHa_sharePart 52 = .ok (.invokevirtual 38, 3) := by decide +kernel
theorem dHa_sharePart_55 : decode bHa_sharePart 55 = .ok (.i2l, 1) := by decide +kernel
theorem dHa_sharePart_56 : decode bHa_sharePart 56 = .ok (.iload 4, 2) := by decide +kernel
theorem dHa_sharePart_58 : decode bHa_sharePart 58 = .ok (.invokestatic 34, 3) := by decide +kernel
theorem dHa_sharePart_61 : decode bHa_sharePart 61 = .ok (.lreturn, 1) := by decide +kernel
theorem dHa_sharePart_62 : decode bHa_sharePart 62 = .ok (.aload_n 0, 1) := by decide +kernel
theorem dHa_sharePart_63 : decode bHa_sharePart 63 = .ok (.iload 6, 2) := by decide +kernel
theorem dHa_sharePart_65 : decode bHa_sharePart 65 = .ok (.iload_n 1, 1) := by decide +kernel
theorem dHa_sharePart_66 : decode bHa_sharePart 66 = .ok (.iload_n 2, 1) := by decide +kernel
theorem dHa_sharePart_67 : decode bHa_sharePart 67 = .ok (.invokevirtual 42, 3) := by decide +kernel
theorem dHa_sharePart_70 : decode bHa_sharePart 70 = .ok (.iconst 1, 1) := by decide +kernel
theorem dHa_sharePart_71 : decode bHa_sharePart 71 = .ok (.iadd, 1) := by decide +kernel
theorem dHa_sharePart_72 : decode bHa_sharePart 72 = .ok (.i2l, 1) := by decide +kernel
theorem dHa_sharePart_73 : decode bHa_sharePart 73 = .ok (.lstore 7, 2) := by decide +kernel
theorem dHa_sharePart_75 : decode bHa_sharePart 75 = .ok (.aload_n 0, 1) := by decide +kernel
theorem dHa_sharePart_76 : decode bHa_sharePart 76 = .ok (.iload 5, 2) := by decide +kernel
theorem dHa_sharePart_78 : decode bHa_sharePart 78 = .ok (.iload_n 1, 1) := by decide +kernel
theorem dHa_sharePart_79 : decode bHa_sharePart 79 = .ok (.iload_n 2, 1) := by decide +kernel
theorem dHa_sharePart_80 : decode bHa_sharePart 80 = .ok (.invokevirtual 42, 3) := by decide +kernel
theorem dHa_sharePart_83 : decode bHa_sharePart 83 = .ok (.iconst 1, 1) := by decide +kernel
theorem dHa_sharePart_84 : decode bHa_sharePart 84 = .ok (.iadd, 1) := by decide +kernel
theorem dHa_sharePart_85 : decode bHa_sharePart 85 = .ok (.i2l, 1) := by decide +kernel
theorem dHa_sharePart_86 : decode bHa_sharePart 86 = .ok (.lstore 9, 2) := by decide +kernel
theorem dHa_sharePart_88 : decode bHa_sharePart 88 = .ok (.aload_n 0, 1) := by decide +kernel
theorem dHa_sharePart_89 : decode bHa_sharePart 89 = .ok (.iload 5, 2) := by decide +kernel
theorem dHa_sharePart_91 : decode bHa_sharePart 91 = .ok (.invokevirtual 38, 3) := by decide +kernel
theorem dHa_sharePart_94 : decode bHa_sharePart 94 = .ok (.i2l, 1) := by decide +kernel
theorem dHa_sharePart_95 : decode bHa_sharePart 95 = .ok (.lstore 11, 2) := by decide +kernel
theorem dHa_sharePart_97 : decode bHa_sharePart 97 = .ok (.aload_n 0, 1) := by decide +kernel
theorem dHa_sharePart_98 : decode bHa_sharePart 98 = .ok (.iload 6, 2) := by decide +kernel
theorem dHa_sharePart_100 : decode bHa_sharePart 100 = .ok (.invokevirtual 38, 3) := by decide +kernel
theorem dHa_sharePart_103 : decode bHa_sharePart 103 = .ok (.i2l, 1) := by decide +kernel
theorem dHa_sharePart_104 : decode bHa_sharePart 104 = .ok (.lstore 13, 2) := by decide +kernel
theorem dHa_sharePart_106 : decode bHa_sharePart 106 = .ok (.aload_n 0, 1) := by decide +kernel
theorem dHa_sharePart_107 : decode bHa_sharePart 107 = .ok (.getfield 24, 3) := by decide +kernel
theorem dHa_sharePart_110 : decode bHa_sharePart 110 = .ok (.iload 5, 2) := by decide +kernel
theorem dHa_sharePart_112 : decode bHa_sharePart 112 = .ok (.aaload, 1) := by decide +kernel
theorem dHa_sharePart_113 : decode bHa_sharePart 113 = .ok (.iload_n 3, 1) := by decide +kernel
theorem dHa_sharePart_114 : decode bHa_sharePart 114 = .ok (.iaload, 1) := by decide +kernel
theorem dHa_sharePart_115 : decode bHa_sharePart 115 = .ok (.i2l, 1) := by decide +kernel
theorem dHa_sharePart_116 : decode bHa_sharePart 116 = .ok (.lload 13, 2) := by decide +kernel
theorem dHa_sharePart_118 : decode bHa_sharePart 118 = .ok (.lmul, 1) := by decide +kernel
theorem dHa_sharePart_119 : decode bHa_sharePart 119 = .ok (.lload 7, 2) := by decide +kernel
theorem dHa_sharePart_121 : decode bHa_sharePart 121 = .ok (.lmul, 1) := by decide +kernel
theorem dHa_sharePart_122 : decode bHa_sharePart 122 = .ok (.aload_n 0, 1) := by decide +kernel
theorem dHa_sharePart_123 : decode bHa_sharePart 123 = .ok (.getfield 24, 3) := by decide +kernel
theorem dHa_sharePart_126 : decode bHa_sharePart 126 = .ok (.iload 6, 2) := by decide +kernel
theorem dHa_sharePart_128 : decode bHa_sharePart 128 = .ok (.aaload, 1) := by decide +kernel
theorem dHa_sharePart_129 : decode bHa_sharePart 129 = .ok (.iload_n 3, 1) := by decide +kernel
theorem dHa_sharePart_130 : decode bHa_sharePart 130 = .ok (.iaload, 1) := by decide +kernel
theorem dHa_sharePart_131 : decode bHa_sharePart 131 = .ok (.i2l, 1) := by decide +kernel
theorem dHa_sharePart_132 : decode bHa_sharePart 132 = .ok (.lload 11, 2) := by decide +kernel
theorem dHa_sharePart_134 : decode bHa_sharePart 134 = .ok (.lmul, 1) := by decide +kernel
theorem dHa_sharePart_135 : decode bHa_sharePart 135 = .ok (.lload 9, 2) := by decide +kernel
theorem dHa_sharePart_137 : decode bHa_sharePart 137 = .ok (.lmul, 1) := by decide +kernel
theorem dHa_sharePart_138 : decode bHa_sharePart 138 = .ok (.ladd, 1) := by decide +kernel
theorem dHa_sharePart_139 : decode bHa_sharePart 139 = .ok (.lstore 15, 2) := by decide +kernel
theorem dHa_sharePart_141 : decode bHa_sharePart 141 = .ok (.lload 15, 2) := by decide +kernel
theorem dHa_sharePart_143 : decode bHa_sharePart 143 = .ok (.lload 11, 2) := by decide +kernel
theorem dHa_sharePart_145 : decode bHa_sharePart 145 = .ok (.lload 13, 2) := by decide +kernel
theorem dHa_sharePart_147 : decode bHa_sharePart 147 = .ok (.lmul, 1) := by decide +kernel
theorem dHa_sharePart_148 : decode bHa_sharePart 148 = .ok (.lload 7, 2) := by decide +kernel
theorem dHa_sharePart_150 : decode bHa_sharePart 150 = .ok (.lload 9, 2) := by decide +kernel
theorem dHa_sharePart_152 : decode bHa_sharePart 152 = .ok (.ladd, 1) := by decide +kernel
theorem dHa_sharePart_153 : decode bHa_sharePart 153 = .ok (.lmul, 1) := by decide +kernel
theorem dHa_sharePart_154 : decode bHa_sharePart 154 = .ok (.iload 4, 2) := by decide +kernel
theorem dHa_sharePart_156 : decode bHa_sharePart 156 = .ok (.invokestatic 34, 3) := by decide +kernel
theorem dHa_sharePart_159 : decode bHa_sharePart 159 = .ok (.lreturn, 1) := by decide +kernel
theorem dHa_nearestFilled_0 : decode bHa_nearestFilled 0 = .ok (.iconst (-1), 1) := by decide +kernel
theorem dHa_nearestFilled_1 : decode bHa_nearestFilled 1 = .ok (.istore 4, 2) := by decide +kernel
theorem dHa_nearestFilled_3 : decode bHa_nearestFilled 3 = .ok (.iconst 0, 1) := by decide +kernel
theorem dHa_nearestFilled_4 : decode bHa_nearestFilled 4 = .ok (.istore 5, 2) := by decide +kernel
theorem dHa_nearestFilled_6 : decode bHa_nearestFilled 6 = .ok (.iconst 0, 1) := by decide +kernel
theorem dHa_nearestFilled_7 : decode bHa_nearestFilled 7 = .ok (.istore 6, 2) := by decide +kernel
theorem dHa_nearestFilled_9 : decode bHa_nearestFilled 9 = .ok (.iload 6, 2) := by decide +kernel
theorem dHa_nearestFilled_11 : decode bHa_nearestFilled 11 = .ok (.aload_n 0, 1) := by decide +kernel
theorem dHa_nearestFilled_12 : decode bHa_nearestFilled 12 = .ok (.getfield 27, 3) := by decide +kernel
theorem dHa_nearestFilled_15 : decode bHa_nearestFilled 15 = .ok (.if_icmp .ge (55), 3) := by decide +kernel
theorem dHa_nearestFilled_18 : decode bHa_nearestFilled 18 = .ok (.iload 6, 2) := by decide +kernel
theorem dHa_nearestFilled_20 : decode bHa_nearestFilled 20 = .ok (.iload_n 3, 1) := by decide +kernel
theorem dHa_nearestFilled_21 : decode bHa_nearestFilled 21 = .ok (.if_icmp .eq (43), 3) := by decide +kernel
theorem dHa_nearestFilled_24 : decode bHa_nearestFilled 24 = .ok (.aload_n 0, 1) := by decide +kernel
theorem dHa_nearestFilled_25 : decode bHa_nearestFilled 25 = .ok (.iload 6, 2) := by decide +kernel
theorem dHa_nearestFilled_27 : decode bHa_nearestFilled 27 = .ok (.invokevirtual 38, 3) := by decide +kernel
theorem dHa_nearestFilled_30 : decode bHa_nearestFilled 30 = .ok (.ifCond .le (34), 3) := by decide +kernel
theorem dHa_nearestFilled_33 : decode bHa_nearestFilled 33 = .ok (.aload_n 0, 1) := by decide +kernel
theorem dHa_nearestFilled_34 : decode bHa_nearestFilled 34 = .ok (.iload 6, 2) := by decide +kernel
theorem dHa_nearestFilled_36 : decode bHa_nearestFilled 36 = .ok (.iload_n 1, 1) := by decide +kernel
theorem dHa_nearestFilled_37 : decode bHa_nearestFilled 37 = .ok (.iload_n 2, 1) := by decide +kernel
theorem dHa_nearestFilled_38 : decode bHa_nearestFilled 38 = .ok (.invokevirtual 42, 3) := by decide +kernel
theorem dHa_nearestFilled_41 : decode bHa_nearestFilled 41 = .ok (.istore 7, 2) := by decide +kernel
theorem dHa_nearestFilled_43 : decode bHa_nearestFilled 43 = .ok (.iload 4, 2) := by decide +kernel
theorem dHa_nearestFilled_45 : decode bHa_nearestFilled 45 = .ok (.iconst (-1), 1) := by decide +kernel
theorem dHa_nearestFilled_46 : decode bHa_nearestFilled 46 = .ok (.if_icmp .eq (10), 3) := by decide +kernel
theorem dHa_nearestFilled_49 : decode bHa_nearestFilled 49 = .ok (.iload 7, 2) := by decide +kernel
theorem dHa_nearestFilled_51 : decode bHa_nearestFilled 51 = .ok (.iload 5, 2) := by decide +kernel
theorem dHa_nearestFilled_53 : decode bHa_nearestFilled 53 = .ok (.if_icmp .ge (11), 3) := by decide +kernel
theorem dHa_nearestFilled_56 : decode bHa_nearestFilled 56 = .ok (.iload 6, 2) := by decide +kernel
theorem dHa_nearestFilled_58 : decode bHa_nearestFilled 58 = .ok (.istore 4, 2) := by decide +kernel
theorem dHa_nearestFilled_60 : decode bHa_nearestFilled 60 = .ok (.iload 7, 2) := by decide +kernel
theorem dHa_nearestFilled_62 : decode bHa_nearestFilled 62 = .ok (.istore 5, 2) := by decide +kernel
theorem dHa_nearestFilled_64 : decode bHa_nearestFilled 64 = .ok (.iinc 6 (1), 3) := by decide +kernel
theorem dHa_nearestFilled_67 : decode bHa_nearestFilled 67 = .ok (.goto (-58), 3) := by decide +kernel
theorem dHa_nearestFilled_70 : decode bHa_nearestFilled 70 = .ok (.iload 4, 2) := by decide +kernel
theorem dHa_nearestFilled_72 : decode bHa_nearestFilled 72 = .ok (.ireturn, 1) := by decide +kernel
theorem dHa_squareTo_0 : decode bHa_squareTo 0 = .ok (.aload_n 0, 1) := by decide +kernel
theorem dHa_squareTo_1 : decode bHa_squareTo 1 = .ok (.getfield 15, 3) := by decide +kernel
theorem dHa_squareTo_4 : decode bHa_squareTo 4 = .ok (.iload_n 1, 1) := by decide +kernel
theorem dHa_squareTo_5 : decode bHa_squareTo 5 = .ok (.iaload, 1) := by decide +kernel
theorem dHa_squareTo_6 : decode bHa_squareTo 6 = .ok (.iload_n 2, 1) := by decide +kernel
theorem dHa_squareTo_7 : decode bHa_squareTo 7 = .ok (.isub, 1) := by decide +kernel
theorem dHa_squareTo_8 : decode bHa_squareTo 8 = .ok (.invokestatic 45, 3) := by decide +kernel
theorem dHa_squareTo_11 : decode bHa_squareTo 11 = .ok (.aload_n 0, 1) := by decide +kernel
theorem dHa_squareTo_12 : decode bHa_squareTo 12 = .ok (.getfield 19, 3) := by decide +kernel
theorem dHa_squareTo_15 : decode bHa_squareTo 15 = .ok (.iload_n 1, 1) := by decide +kernel
theorem dHa_squareTo_16 : decode bHa_squareTo 16 = .ok (.iaload, 1) := by decide +kernel
theorem dHa_squareTo_17 : decode bHa_squareTo 17 = .ok (.iload_n 3, 1) := by decide +kernel
theorem dHa_squareTo_18 : decode bHa_squareTo 18 = .ok (.isub, 1) := by decide +kernel
theorem dHa_squareTo_19 : decode bHa_squareTo 19 = .ok (.invokestatic 45, 3) := by decide +kernel
theorem dHa_squareTo_22 : decode bHa_squareTo 22 = .ok (.iadd, 1) := by decide +kernel
theorem dHa_squareTo_23 : decode bHa_squareTo 23 = .ok (.ireturn, 1) := by decide +kernel
theorem dHa_allGrams_0 : decode bHa_allGrams 0 = .ok (.iconst 0, 1) := by decide +kernel
theorem dHa_allGrams_1 : decode bHa_allGrams 1 = .ok (.istore_n 2, 1) := by decide +kernel
theorem dHa_allGrams_2 : decode bHa_allGrams 2 = .ok (.iconst 0, 1) := by decide +kernel
theorem dHa_allGrams_3 : decode bHa_allGrams 3 = .ok (.istore_n 3, 1) := by decide +kernel
theorem dHa_allGrams_4 : decode bHa_allGrams 4 = .ok (.iload_n 3, 1) := by decide +kernel
theorem dHa_allGrams_5 : decode bHa_allGrams 5 = .ok (.aload_n 0, 1) := by decide +kernel
theorem dHa_allGrams_6 : decode bHa_allGrams 6 = .ok (.getfield 9, 3) := by decide +kernel
theorem dHa_allGrams_9 : decode bHa_allGrams 9 = .ok (.if_icmp .ge (20), 3) := by decide +kernel
theorem dHa_allGrams_12 : decode bHa_allGrams 12 = .ok (.iload_n 2, 1) := by decide +kernel
theorem dHa_allGrams_13 : decode bHa_allGrams 13 = .ok (.aload_n 0, 1) := by decide +kernel
theorem dHa_allGrams_14 : decode bHa_allGrams 14 = .ok (.getfield 24, 3) := by decide +kernel
theorem dHa_allGrams_17 : decode bHa_allGrams 17 = .ok (.iload_n 1, 1) := by decide +kernel
theorem dHa_allGrams_18 : decode bHa_allGrams 18 = .ok (.aaload, 1) := by decide +kernel
theorem dHa_allGrams_19 : decode bHa_allGrams 19 = .ok (.iload_n 3, 1) := by decide +kernel
theorem dHa_allGrams_20 : decode bHa_allGrams 20 = .ok (.iaload, 1) := by decide +kernel
theorem dHa_allGrams_21 : decode bHa_allGrams 21 = .ok (.iadd, 1) := by decide +kernel
theorem dHa_allGrams_22 : decode bHa_allGrams 22 = .ok (.istore_n 2, 1) := by decide +kernel
theorem dHa_allGrams_23 : decode bHa_allGrams 23 = .ok (.iinc 3 (1), 3) := by decide +kernel
theorem dHa_allGrams_26 : decode bHa_allGrams 26 = .ok (.goto (-22), 3) := by decide +kernel
theorem dHa_allGrams_29 : decode bHa_allGrams 29 = .ok (.iload_n 2, 1) := by decide +kernel
theorem dHa_allGrams_30 : decode bHa_allGrams 30 = .ok (.ireturn, 1) := by decide +kernel
theorem dLa_init_0 : decode bLa_init 0 = .ok (.aload_n 0, 1) := by decide +kernel
theorem dLa_init_1 : decode bLa_init 1 = .ok (.invokespecial 3, 3) := by decide +kernel
theorem dLa_init_4 : decode bLa_init 4 = .ok (.aload_n 0, 1) := by decide +kernel
theorem dLa_init_5 : decode bLa_init 5 = .ok (.bipush (6), 2) := by decide +kernel
theorem dLa_init_7 : decode bLa_init 7 = .ok (.newarray .int, 2) := by decide +kernel
theorem dLa_init_9 : decode bLa_init 9 = .ok (.putfield 9, 3) := by decide +kernel
theorem dLa_init_12 : decode bLa_init 12 = .ok (.aload_n 0, 1) := by decide +kernel
theorem dLa_init_13 : decode bLa_init 13 = .ok (.bipush (6), 2) := by decide +kernel
theorem dLa_init_15 : decode bLa_init 15 = .ok (.newarray .int, 2) := by decide +kernel
theorem dLa_init_17 : decode bLa_init 17 = .ok (.putfield 15, 3) := by decide +kernel
theorem dLa_init_20 : decode bLa_init 20 = .ok (.return_, 1) := by decide +kernel
theorem dLa_lastLength_0 : decode bLa_lastLength 0 = .ok (.aload_n 0, 1) := by decide +kernel
theorem dLa_lastLength_1 : decode bLa_lastLength 1 = .ok (.getfield 18, 3) := by decide +kernel
theorem dLa_lastLength_4 : decode bLa_lastLength 4 = .ok (.iconst 1, 1) := by decide +kernel
theorem dLa_lastLength_5 : decode bLa_lastLength 5 = .ok (.if_icmp .ge (7), 3) := by decide +kernel
theorem dLa_lastLength_8 : decode bLa_lastLength 8 = .ok (.iconst 0, 1) := by decide +kernel
theorem dLa_lastLength_9 : decode bLa_lastLength 9 = .ok (.goto (14), 3) := by decide +kernel
theorem dLa_lastLength_12 : decode bLa_lastLength 12 = .ok (.aload_n 0, 1) := by decide +kernel
theorem dLa_lastLength_13 : decode bLa_lastLength 13 = .ok (.getfield 9, 3) := by decide +kernel
theorem dLa_lastLength_16 : decode bLa_lastLength 16 = .ok (.aload_n 0, 1) := by decide +kernel
theorem dLa_lastLength_17 : decode bLa_lastLength 17 = .ok (.getfield 18, 3) := by decide +kernel
theorem dLa_lastLength_20 : decode bLa_lastLength 20 = .ok (.iconst 1, 1) := by decide +kernel
theorem dLa_lastLength_21 : decode bLa_lastLength 21 = .ok (.isub, 1) := by decide +kernel
theorem dLa_lastLength_22 : decode bLa_lastLength 22 = .ok (.iaload, 1) := by decide +kernel
theorem dLa_lastLength_23 : decode bLa_lastLength 23 = .ok (.ireturn, 1) := by decide +kernel
theorem dLa_add_0 : decode bLa_add 0 = .ok (.aload_n 0, 1) := by decide +kernel
theorem dLa_add_1 : decode bLa_add 1 = .ok (.getfield 9, 3) := by decide +kernel
theorem dLa_add_4 : decode bLa_add 4 = .ok (.aload_n 0, 1) := by decide +kernel
theorem dLa_add_5 : decode bLa_add 5 = .ok (.getfield 18, 3) := by decide +kernel
theorem dLa_add_8 : decode bLa_add 8 = .ok (.iload_n 1, 1) := by decide +kernel
theorem dLa_add_9 : decode bLa_add 9 = .ok (.iastore, 1) := by decide +kernel
theorem dLa_add_10 : decode bLa_add 10 = .ok (.aload_n 0, 1) := by decide +kernel
theorem dLa_add_11 : decode bLa_add 11 = .ok (.getfield 15, 3) := by decide +kernel
theorem dLa_add_14 : decode bLa_add 14 = .ok (.aload_n 0, 1) := by decide +kernel
theorem dLa_add_15 : decode bLa_add 15 = .ok (.getfield 18, 3) := by decide +kernel
theorem dLa_add_18 : decode bLa_add 18 = .ok (.iload_n 2, 1) := by decide +kernel
theorem dLa_add_19 : decode bLa_add 19 = .ok (.iastore, 1) := by decide +kernel
theorem dLa_add_20 : decode bLa_add 20 = .ok (.aload_n 0, 1) := by decide +kernel
theorem dLa_add_21 : decode bLa_add 21 = .ok (.dup, 1) := by decide +kernel
theorem dLa_add_22 : decode bLa_add 22 = .ok (.getfield 18, 3) := by decide +kernel
theorem dLa_add_25 : decode bLa_add 25 = .ok (.iconst 1, 1) := by decide +kernel
theorem dLa_add_26 : decode bLa_add 26 = .ok (.iadd, 1) := by decide +kernel
theorem dLa_add_27 : decode bLa_add 27 = .ok (.putfield 18, 3) := by decide +kernel
theorem dLa_add_30 : decode bLa_add 30 = .ok (.aload_n 0, 1) := by decide +kernel
end
section
theorem dLa_add_31 : decode bLa_add 31 = .ok (.getfield 18, 3) := by decide +kernel
theorem dLa_add_34 : decode bLa_add 34 = .ok (.ireturn, 1) := by decide +kernel
theorem dLa_strengthAt_0 : decode bLa_strengthAt 0 = .ok (.iconst 0, 1) := by decide +kernel
theorem dLa_strengthAt_1 : decode bLa_strengthAt 1 = .ok (.istore_n 2, 1) := by decide +kernel
theorem dLa_strengthAt_2 : decode bLa_strengthAt 2 = .ok (.iload_n 2, 1) := by decide +kernel
theorem dLa_strengthAt_3 : decode bLa_strengthAt 3 = .ok (.aload_n 0, 1) := by decide +kernel
theorem dLa_strengthAt_4 : decode bLa_strengthAt 4 = .ok (.getfield 18, 3) := by decide +kernel
theorem dLa_strengthAt_7 : decode bLa_strengthAt 7 = .ok (.if_icmp .ge (52), 3) := by decide +kernel
theorem dLa_strengthAt_10 : decode bLa_strengthAt 10 = .ok (.iload_n 1, 1) := by decide +kernel
theorem dLa_strengthAt_11 : decode bLa_strengthAt 11 = .ok (.aload_n 0, 1) := by decide +kernel
theorem dLa_strengthAt_12 : decode bLa_strengthAt 12 = .ok (.getfield 9, 3) := by decide +kernel
theorem dLa_strengthAt_15 : decode bLa_strengthAt 15 = .ok (.iload_n 2, 1) := by decide +kernel
theorem dLa_strengthAt_16 : decode bLa_strengthAt 16 = .ok (.iaload, 1) := by decide +kernel
theorem dLa_strengthAt_17 : decode bLa_strengthAt 17 = .ok (.if_icmp .ne (10), 3) := by decide +kernel
theorem dLa_strengthAt_20 : decode bLa_strengthAt 20 = .ok (.aload_n 0, 1) := by decide +kernel
theorem dLa_strengthAt_21 : decode bLa_strengthAt 21 = .ok (.getfield 15, 3) := by decide +kernel
theorem dLa_strengthAt_24 : decode bLa_strengthAt 24 = .ok (.iload_n 2, 1) := by decide +kernel
theorem dLa_strengthAt_25 : decode bLa_strengthAt 25 = .ok (.iaload, 1) := by decide +kernel
theorem dLa_strengthAt_26 : decode bLa_strengthAt 26 = .ok (.ireturn, 1) := by decide +kernel
theorem dLa_strengthAt_27 : decode bLa_strengthAt 27 = .ok (.iload_n 1, 1) := by decide +kernel
theorem dLa_strengthAt_28 : decode bLa_strengthAt 28 = .ok (.aload_n 0, 1) := by decide +kernel
theorem dLa_strengthAt_29 : decode bLa_strengthAt 29 = .ok (.getfield 9, 3) := by decide +kernel
theorem dLa_strengthAt_32 : decode bLa_strengthAt 32 = .ok (.iload_n 2, 1) := by decide +kernel
theorem dLa_strengthAt_33 : decode bLa_strengthAt 33 = .ok (.iaload, 1) := by decide +kernel
theorem dLa_strengthAt_34 : decode bLa_strengthAt 34 = .ok (.if_icmp .ge (19), 3) := by decide +kernel
theorem dLa_strengthAt_37 : decode bLa_strengthAt 37 = .ok (.iload_n 2, 1) := by decide +kernel
theorem dLa_strengthAt_38 : decode bLa_strengthAt 38 = .ok (.iconst 1, 1) := by decide +kernel
theorem dLa_strengthAt_39 : decode bLa_strengthAt 39 = .ok (.if_icmp .ge (7), 3) := by decide +kernel
theorem dLa_strengthAt_42 : decode bLa_strengthAt 42 = .ok (.iconst (-1), 1) := by decide +kernel
theorem dLa_strengthAt_43 : decode bLa_strengthAt 43 = .ok (.goto (9), 3) := by decide +kernel
theorem dLa_strengthAt_46 : decode bLa_strengthAt 46 = .ok (.aload_n 0, 1) := by decide +kernel
theorem dLa_strengthAt_47 : decode bLa_strengthAt 47 = .ok (.iload_n 2, 1) := by decide +kernel
theorem dLa_strengthAt_48 : decode bLa_strengthAt 48 = .ok (.iload_n 1, 1) := by decide +kernel
theorem dLa_strengthAt_49 : decode bLa_strengthAt 49 = .ok (.invokevirtual 22, 3) := by decide +kernel
theorem dLa_strengthAt_52 : decode bLa_strengthAt 52 = .ok (.ireturn, 1) := by decide +kernel
theorem dLa_strengthAt_53 : decode bLa_strengthAt 53 = .ok (.iinc 2 (1), 3) := by decide +kernel
theorem dLa_strengthAt_56 : decode bLa_strengthAt 56 = .ok (.goto (-54), 3) := by decide +kernel
theorem dLa_strengthAt_59 : decode bLa_strengthAt 59 = .ok (.iconst (-1), 1) := by decide +kernel
theorem dLa_strengthAt_60 : decode bLa_strengthAt 60 = .ok (.ireturn, 1) := by decide +kernel
theorem dLa_strengthBefore_0 : decode bLa_strengthBefore 0 = .ok (.aload_n 0, 1) := by decide +kernel
theorem dLa_strengthBefore_1 : decode bLa_strengthBefore 1 = .ok (.getfield 15, 3) := by decide +kernel
theorem dLa_strengthBefore_4 : decode bLa_strengthBefore 4 = .ok (.iload_n 1, 1) := by decide +kernel
theorem dLa_strengthBefore_5 : decode bLa_strengthBefore 5 = .ok (.iaload, 1) := by decide +kernel
theorem dLa_strengthBefore_6 : decode bLa_strengthBefore 6 = .ok (.aload_n 0, 1) := by decide +kernel
theorem dLa_strengthBefore_7 : decode bLa_strengthBefore 7 = .ok (.getfield 15, 3) := by decide +kernel
theorem dLa_strengthBefore_10 : decode bLa_strengthBefore 10 = .ok (.iload_n 1, 1) := by decide +kernel
theorem dLa_strengthBefore_11 : decode bLa_strengthBefore 11 = .ok (.iconst 1, 1) := by decide +kernel
theorem dLa_strengthBefore_12 : decode bLa_strengthBefore 12 = .ok (.isub, 1) := by decide +kernel
theorem dLa_strengthBefore_13 : decode bLa_strengthBefore 13 = .ok (.iaload, 1) := by decide +kernel
theorem dLa_strengthBefore_14 : decode bLa_strengthBefore 14 = .ok (.isub, 1) := by decide +kernel
theorem dLa_strengthBefore_15 : decode bLa_strengthBefore 15 = .ok (.istore_n 3, 1) := by decide +kernel
theorem dLa_strengthBefore_16 : decode bLa_strengthBefore 16 = .ok (.aload_n 0, 1) := by decide +kernel
theorem dLa_strengthBefore_17 : decode bLa_strengthBefore 17 = .ok (.getfield 9, 3) := by decide +kernel
theorem dLa_strengthBefore_20 : decode bLa_strengthBefore 20 = .ok (.iload_n 1, 1) := by decide +kernel
theorem dLa_strengthBefore_21 : decode bLa_strengthBefore 21 = .ok (.iaload, 1) := by decide +kernel
theorem dLa_strengthBefore_22 : decode bLa_strengthBefore 22 = .ok (.aload_n 0, 1) := by decide +kernel
theorem dLa_strengthBefore_23 : decode bLa_strengthBefore 23 = .ok (.getfield 9, 3) := by decide +kernel
theorem dLa_strengthBefore_26 : decode bLa_strengthBefore 26 = .ok (.iload_n 1, 1) := by decide +kernel
theorem dLa_strengthBefore_27 : decode bLa_strengthBefore 27 = .ok (.iconst 1, 1) := by decide +kernel
theorem dLa_strengthBefore_28 : decode bLa_strengthBefore 28 = .ok (.isub, 1) := by decide +kernel
theorem dLa_strengthBefore_29 : decode bLa_strengthBefore 29 = .ok (.iaload, 1) := by decide +kernel
theorem dLa_strengthBefore_30 : decode bLa_strengthBefore 30 = .ok (.isub, 1) := by decide +kernel
theorem dLa_strengthBefore_31 : decode bLa_strengthBefore 31 = .ok (.istore 4, 2) := by decide +kernel
theorem dLa_strengthBefore_33 : decode bLa_strengthBefore 33 = .ok (.aload_n 0, 1) := by decide +kernel
theorem dLa_strengthBefore_34 : decode bLa_strengthBefore 34 = .ok (.getfield 15, 3) := by decide +kernel
theorem dLa_strengthBefore_37 : decode bLa_strengthBefore 37 = .ok (.iload_n 1, 1) := by decide +kernel
theorem dLa_strengthBefore_38 : decode bLa_strengthBefore 38 = .ok (.iconst 1, 1) := by decide +kernel
theorem dLa_strengthBefore_39 : decode bLa_strengthBefore 39 = .ok (.isub, 1) := by decide +kernel
theorem dLa_strengthBefore_40 : decode bLa_strengthBefore 40 = .ok (.iaload, 1) := by decide +kernel
theorem dLa_strengthBefore_41 : decode bLa_strengthBefore 41 = .ok (.iload_n 3, 1) := by decide +kernel
theorem dLa_strengthBefore_42 : decode bLa_strengthBefore 42 = .ok (.iload_n 2, 1) := by decide +kernel
theorem dLa_strengthBefore_43 : decode bLa_strengthBefore 43 = .ok (.aload_n 0, 1) := by decide +kernel
theorem dLa_strengthBefore_44 : decode bLa_strengthBefore 44 = .ok (.getfield 9, 3) := by decide +kernel
theorem dLa_strengthBefore_47 : decode bLa_strengthBefore 47 = .ok (.iload_n 1, 1) := by decide +kernel
theorem dLa_strengthBefore_48 : decode bLa_strengthBefore 48 = .ok (.iconst 1, 1) := by decide +kernel
theorem dLa_strengthBefore_49 : decode bLa_strengthBefore 49 = .ok (.isub, 1) := by decide +kernel
theorem dLa_strengthBefore_50 : decode bLa_strengthBefore 50 = .ok (.iaload, 1) := by decide +kernel
theorem dLa_strengthBefore_51 : decode bLa_strengthBefore 51 = .ok (.isub, 1) := by decide +kernel
theorem dLa_strengthBefore_52 : decode bLa_strengthBefore 52 = .ok (.imul, 1) := by decide +kernel
theorem dLa_strengthBefore_53 : decode bLa_strengthBefore 53 = .ok (.iload 4, 2) := by decide +kernel
theorem dLa_strengthBefore_55 : decode bLa_strengthBefore 55 = .ok (.invokestatic 26, 3) := by decide +kernel
theorem dLa_strengthBefore_58 : decode bLa_strengthBefore 58 = .ok (.iadd, 1) := by decide +kernel
theorem dLa_strengthBefore_59 : decode bLa_strengthBefore 59 = .ok (.ireturn, 1) := by decide +kernel
theorem dLa_leastLength_0 : decode bLa_leastLength 0 = .ok (.iconst 0, 1) := by decide +kernel
theorem dLa_leastLength_1 : decode bLa_leastLength 1 = .ok (.istore_n 2, 1) := by decide +kernel
theorem dLa_leastLength_2 : decode bLa_leastLength 2 = .ok (.iload_n 2, 1) := by decide +kernel
theorem dLa_leastLength_3 : decode bLa_leastLength 3 = .ok (.aload_n 0, 1) := by decide +kernel
theorem dLa_leastLength_4 : decode bLa_leastLength 4 = .ok (.getfield 18, 3) := by decide +kernel
theorem dLa_leastLength_7 : decode bLa_leastLength 7 = .ok (.if_icmp .ge (40), 3) := by decide +kernel
theorem dLa_leastLength_10 : decode bLa_leastLength 10 = .ok (.aload_n 0, 1) := by decide +kernel
theorem dLa_leastLength_11 : decode bLa_leastLength 11 = .ok (.getfield 15, 3) := by decide +kernel
theorem dLa_leastLength_14 : decode bLa_leastLength 14 = .ok (.iload_n 2, 1) := by decide +kernel
theorem dLa_leastLength_15 : decode bLa_leastLength 15 = .ok (.iaload, 1) := by decide +kernel
theorem dLa_leastLength_16 : decode bLa_leastLength 16 = .ok (.iload_n 1, 1) := by decide +kernel
theorem dLa_leastLength_17 : decode bLa_leastLength 17 = .ok (.if_icmp .lt (24), 3) := by decide +kernel
theorem dLa_leastLength_20 : decode bLa_leastLength 20 = .ok (.iload_n 2, 1) := by decide +kernel
theorem dLa_leastLength_21 : decode bLa_leastLength 21 = .ok (.iconst 1, 1) := by decide +kernel
theorem dLa_leastLength_22 : decode bLa_leastLength 22 = .ok (.if_icmp .ge (12), 3) := by decide +kernel
theorem dLa_leastLength_25 : decode bLa_leastLength 25 = .ok (.aload_n 0, 1) := by decide +kernel
theorem dLa_leastLength_26 : decode bLa_leastLength 26 = .ok (.getfield 9, 3) := by decide +kernel
theorem dLa_leastLength_29 : decode bLa_leastLength 29 = .ok (.iload_n 2, 1) := by decide +kernel
theorem dLa_leastLength_30 : decode bLa_leastLength 30 = .ok (.iaload, 1) := by decide +kernel
theorem dLa_leastLength_31 : decode bLa_leastLength 31 = .ok (.goto (9), 3) := by decide +kernel
theorem dLa_leastLength_34 : decode bLa_leastLength 34 = .ok (.aload_n 0, 1) := by decide +kernel
theorem dLa_leastLength_35 : decode bLa_leastLength 35 = .ok (.iload_n 2, 1) := by decide +kernel
theorem dLa_leastLength_36 : decode bLa_leastLength 36 = .ok (.iload_n 1, 1) := by decide +kernel
theorem dLa_leastLength_37 : decode bLa_leastLength 37 = .ok (.invokevirtual 31, 3) := by decide +kernel
theorem dLa_leastLength_40 : decode bLa_leastLength 40 = .ok (.ireturn, 1) := by decide +kernel
theorem dLa_leastLength_41 : decode bLa_leastLength 41 = .ok (.iinc 2 (1), 3) := by decide +kernel
theorem dLa_leastLength_44 : decode bLa_leastLength 44 = .ok (.goto (-42), 3) := by decide +kernel
theorem dLa_leastLength_47 : decode bLa_leastLength 47 = .ok (.iconst (-1), 1) := by decide +kernel
theorem dLa_leastLength_48 : decode bLa_leastLength 48 = .ok (.ireturn, 1) := by decide +kernel
theorem dLa_leastLengthBefore_0 : decode bLa_leastLengthBefore 0 = .ok (.aload_n 0, 1) := by decide +kernel
theorem dLa_leastLengthBefore_1 : decode bLa_leastLengthBefore 1 = .ok (.getfield 15, 3) := by decide +kernel
theorem dLa_leastLengthBefore_4 : decode bLa_leastLengthBefore 4 = .ok (.iload_n 1, 1) := by decide +kernel
theorem dLa_leastLengthBefore_5 : decode bLa_leastLengthBefore 5 = .ok (.iaload, 1) := by decide +kernel
theorem dLa_leastLengthBefore_6 : decode bLa_leastLengthBefore 6 = .ok (.aload_n 0, 1) := by decide +kernel
theorem dLa_leastLengthBefore_7 : decode bLa_leastLengthBefore 7 = .ok (.getfield 15, 3) := by decide +kernel
theorem dLa_leastLengthBefore_10 : decode bLa_leastLengthBefore 10 = .ok (.iload_n 1, 1) := by decide +kernel
theorem dLa_leastLengthBefore_11 : decode bLa_leastLengthBefore 11 = .ok (.iconst 1, 1) := by decide +kernel
theorem dLa_leastLengthBefore_12 : decode bLa_leastLengthBefore 12 = .ok (.isub, 1) := by decide +kernel
theorem dLa_leastLengthBefore_13 : decode bLa_leastLengthBefore 13 = .ok (.iaload, 1) := by decide +kernel
theorem dLa_leastLengthBefore_14 : decode bLa_leastLengthBefore 14 = .ok (.isub, 1) := by decide +kernel
theorem dLa_leastLengthBefore_15 : decode bLa_leastLengthBefore 15 = .ok (.istore_n 3, 1) := by decide +kernel
theorem dLa_leastLengthBefore_16 : decode bLa_leastLengthBefore 16 = .ok (.aload_n 0, 1) := by decide +kernel
theorem dLa_leastLengthBefore_17 : decode bLa_leastLengthBefore 17 = .ok (.getfield 9, 3) := by decide +kernel
theorem dLa_leastLengthBefore_20 : decode bLa_leastLengthBefore 20 = .ok (.iload_n 1, 1) := by decide +kernel
theorem dLa_leastLengthBefore_21 : decode bLa_leastLengthBefore 21 = .ok (.iaload, 1) := by decide +kernel
theorem dLa_leastLengthBefore_22 : decode bLa_leastLengthBefore 22 = .ok (.aload_n 0, 1) := by decide +kernel
theorem dLa_leastLengthBefore_23 : decode bLa_leastLengthBefore 23 = .ok (.getfield 9, 3) := by decide +kernel
theorem dLa_leastLengthBefore_26 : decode bLa_leastLengthBefore 26 = .ok (.iload_n 1, 1) := by decide +kernel
theorem dLa_leastLengthBefore_27 : decode bLa_leastLengthBefore 27 = .ok (.iconst 1, 1) := by decide +kernel
theorem dLa_leastLengthBefore_28 : decode bLa_leastLengthBefore 28 = .ok (.isub, 1) := by decide +kernel
theorem dLa_leastLengthBefore_29 : decode bLa_leastLengthBefore 29 = .ok (.iaload, 1) := by decide +kernel
theorem dLa_leastLengthBefore_30 : decode bLa_leastLengthBefore 30 = .ok (.isub, 1) := by decide +kernel
theorem dLa_leastLengthBefore_31 : decode bLa_leastLengthBefore 31 = .ok (.istore 4, 2) := by decide +kernel
theorem dLa_leastLengthBefore_33 : decode bLa_leastLengthBefore 33 = .ok (.iload_n 2, 1) := by decide +kernel
theorem dLa_leastLengthBefore_34 : decode bLa_leastLengthBefore 34 = .ok (.aload_n 0, 1) := by decide +kernel
theorem dLa_leastLengthBefore_35 : decode bLa_leastLengthBefore 35 = .ok (.getfield 15, 3) := by decide +kernel
theorem dLa_leastLengthBefore_38 : decode bLa_leastLengthBefore 38 = .ok (.iload_n 1, 1) := by decide +kernel
theorem dLa_leastLengthBefore_39 : decode bLa_leastLengthBefore 39 = .ok (.iconst 1, 1) := by decide +kernel
theorem dLa_leastLengthBefore_40 : decode bLa_leastLengthBefore 40 = .ok (.isub, 1) := by decide +kernel
theorem dLa_leastLengthBefore_41 : decode bLa_leastLengthBefore 41 = .ok (.iaload, 1) := by decide +kernel
theorem dLa_leastLengthBefore_42 : decode bLa_leastLengthBefore 42 = .ok (.isub, 1) := by decide +kernel
theorem dLa_leastLengthBefore_43 : decode bLa_leastLengthBefore 43 = .ok (.iload 4, 2) := by decide +kernel
theorem dLa_leastLengthBefore_45 : decode bLa_leastLengthBefore 45 = .ok (.imul, 1) := by decide +kernel
theorem dLa_leastLengthBefore_46 : decode bLa_leastLengthBefore 46 = .ok (.istore 5, 2) := by decide +kernel
theorem dLa_leastLengthBefore_48 : decode bLa_leastLengthBefore 48 = .ok (.aload_n 0, 1) := by decide +kernel
theorem dLa_leastLengthBefore_49 : decode bLa_leastLengthBefore 49 = .ok (.getfield 9, 3) := by decide +kernel
theorem dLa_leastLengthBefore_52 : decode bLa_leastLengthBefore 52 = .ok (.iload_n 1, 1) := by decide +kernel
theorem dLa_leastLengthBefore_53 : decode bLa_leastLengthBefore 53 = .ok (.iconst 1, 1) := by decide +kernel
theorem dLa_leastLengthBefore_54 : decode bLa_leastLengthBefore 54 = .ok (.isub, 1) := by decide +kernel
theorem dLa_leastLengthBefore_55 : decode bLa_leastLengthBefore 55 = .ok (.iaload, 1) := by decide +kernel
theorem dLa_leastLengthBefore_56 : decode bLa_leastLengthBefore 56 = .ok (.iload 5, 2) := by decide +kernel
theorem dLa_leastLengthBefore_58 : decode bLa_leastLengthBefore 58 = .ok (.iload_n 3, 1) := by decide +kernel
theorem dLa_leastLengthBefore_59 : decode bLa_leastLengthBefore 59 = .ok (.iadd, 1) := by decide +kernel
theorem dLa_leastLengthBefore_60 : decode bLa_leastLengthBefore 60 = .ok (.iconst 1, 1) := by decide +kernel
theorem dLa_leastLengthBefore_61 : decode bLa_leastLengthBefore 61 = .ok (.isub, 1) := by decide +kernel
theorem dLa_leastLengthBefore_62 : decode bLa_leastLengthBefore 62 = .ok (.iload_n 3, 1) := by decide +kernel
theorem dLa_leastLengthBefore_63 : decode bLa_leastLengthBefore 63 = .ok (.idiv, 1) := by decide +kernel
theorem dLa_leastLengthBefore_64 : decode bLa_leastLengthBefore 64 = .ok (.iadd, 1) := by decide +kernel
theorem dLa_leastLengthBefore_65 : decode bLa_leastLengthBefore 65 = .ok (.ireturn, 1) := by decide +kernel
theorem dMa_floorDiv_0 : decode bMa_floorDiv 0 = .ok (.iload_n 0, 1) := by decide +kernel
theorem dMa_floorDiv_1 : decode bMa_floorDiv 1 = .ok (.iload_n 1, 1) := by decide +kernel
theorem dMa_floorDiv_2 : decode bMa_floorDiv 2 = .ok (.idiv, 1) := by decide +kernel
theorem dMa_floorDiv_3 : decode bMa_floorDiv 3 = .ok (.istore_n 2, 1) := by decide +kernel
theorem dMa_floorDiv_4 : decode bMa_floorDiv 4 = .ok (.iload_n 0, 1) := by decide +kernel
theorem dMa_floorDiv_5 : decode bMa_floorDiv 5 = .ok (.iload_n 1, 1) := by decide +kernel
theorem dMa_floorDiv_6 : decode bMa_floorDiv 6 = .ok (.ixor, 1) := by decide +kernel
theorem dMa_floorDiv_7 : decode bMa_floorDiv 7 = .ok (.ifCond .ge (14), 3) := by decide +kernel
theorem dMa_floorDiv_10 : decode bMa_floorDiv 10 = .ok (.iload_n 2, 1) := by decide +kernel
theorem dMa_floorDiv_11 : decode bMa_floorDiv 11 = .ok (.iload_n 1, 1) := by decide +kernel
theorem dMa_floorDiv_12 : decode bMa_floorDiv 12 = .ok (.imul, 1) := by decide +kernel
theorem dMa_floorDiv_13 : decode bMa_floorDiv 13 = .ok (.iload_n 0, 1) := by decide +kernel
theorem dMa_floorDiv_14 : decode bMa_floorDiv 14 = .ok (.if_icmp .eq (7), 3) := by decide +kernel
theorem dMa_floorDiv_17 : decode bMa_floorDiv 17 = .ok (.iload_n 2, 1) := by decide +kernel
theorem dMa_floorDiv_18 : decode bMa_floorDiv 18 = .ok (.iconst 1, 1) := by decide +kernel
theorem dMa_floorDiv_19 : decode bMa_floorDiv 19 = .ok (.isub, 1) := by decide +kernel
theorem dMa_floorDiv_20 : decode bMa_floorDiv 20 = .ok (.ireturn, 1) := by decide +kernel
theorem dMa_floorDiv_21 : decode bMa_floorDiv 21 = .ok (.iload_n 2, 1) := by decide +kernel
theorem dMa_floorDiv_22 : decode bMa_floorDiv 22 = .ok (.ireturn, 1) := by decide +kernel
theorem dKT_init_0 : decode bKT_init 0 = .ok (.aload_n 0, 1) := by decide +kernel
theorem dKT_init_1 : decode bKT_init 1 = .ok (.invokespecial 1, 3) := by decide +kernel
theorem dKT_init_4 : decode bKT_init 4 = .ok (.aload_n 0, 1) := by decide +kernel
theorem dKT_init_5 : decode bKT_init 5 = .ok (.iconst 1, 1) := by decide +kernel
theorem dKT_init_6 : decode bKT_init 6 = .ok (.bipush (6), 2) := by decide +kernel
theorem dKT_init_8 : decode bKT_init 8 = .ok (.iload_n 1, 1) := by decide +kernel
theorem dKT_init_9 : decode bKT_init 9 = .ok (.invokestatic 9, 3) := by decide +kernel
theorem dKT_init_12 : decode bKT_init 12 = .ok (.invokestatic 15, 3) := by decide +kernel
theorem dKT_init_15 : decode bKT_init 15 = .ok (.putfield 18, 3) := by decide +kernel
theorem dKT_init_18 : decode bKT_init 18 = .ok (.aload_n 0, 1) := by decide +kernel
theorem dKT_init_19 : decode bKT_init 19 = .ok (.iconst 1, 1) := by decide +kernel
theorem dKT_init_20 : decode bKT_init 20 = .ok (.bipush (8), 2) := by decide +kernel
theorem dKT_init_22 : decode bKT_init 22 = .ok (.iload_n 2, 1) := by decide +kernel
theorem dKT_init_23 : decode bKT_init 23 = .ok (.invokestatic 9, 3) := by decide +kernel
theorem dKT_init_26 : decode bKT_init 26 = .ok (.invokestatic 15, 3) := by decide +kernel
theorem dKT_init_29 : decode bKT_init 29 = .ok (.iconst 3, 1) := by decide +kernel
theorem dKT_init_30 : decode bKT_init 30 = .ok (.iadd, 1) := by decide +kernel
theorem dKT_init_31 : decode bKT_init 31 = .ok (.putfield 22, 3) := by decide +kernel
theorem dKT_init_34 : decode bKT_init 34 = .ok (.aload_n 0, 1) := by decide +kernel
theorem dKT_init_35 : decode bKT_init 35 = .ok (.new 25, 3) := by decide +kernel
theorem dKT_init_38 : decode bKT_init 38 = .ok (.dup, 1) := by decide +kernel
theorem dKT_init_39 : decode bKT_init 39 = .ok (.aload_n 0, 1) := by decide +kernel
theorem dKT_init_40 : decode bKT_init 40 = .ok (.getfield 22, 3) := by decide +kernel
theorem dKT_init_43 : decode bKT_init 43 = .ok (.invokespecial 27, 3) := by decide +kernel
theorem dKT_init_46 : decode bKT_init 46 = .ok (.putfield 30, 3) := by decide +kernel
theorem dKT_init_49 : decode bKT_init 49 = .ok (.aload_n 0, 1) := by decide +kernel
theorem dKT_init_50 : decode bKT_init 50 = .ok (.new 34, 3) := by decide +kernel
theorem dKT_init_53 : decode bKT_init 53 = .ok (.dup, 1) := by decide +kernel
theorem dKT_init_54 : decode bKT_init 54 = .ok (.aload_n 0, 1) := by decide +kernel
theorem dKT_init_55 : decode bKT_init 55 = .ok (.getfield 30, 3) := by decide +kernel
theorem dKT_init_58 : decode bKT_init 58 = .ok (.aload_n 0, 1) := by decide +kernel
theorem dKT_init_59 : decode bKT_init 59 = .ok (.getfield 18, 3) := by decide +kernel
theorem dKT_init_62 : decode bKT_init 62 = .ok (.invokespecial 36, 3) := by decide +kernel
theorem dKT_init_65 : decode bKT_init 65 = .ok (.putfield 39, 3) := by decide +kernel
theorem dKT_init_68 : decode bKT_init 68 = .ok (.aload_n 0, 1) := by decide +kernel
theorem dKT_init_69 : decode bKT_init 69 = .ok (.new 43, 3) := by decide +kernel
theorem dKT_init_72 : decode bKT_init 72 = .ok (.dup, 1) := by decide +kernel
theorem dKT_init_73 : decode bKT_init 73 = .ok (.aload_n 0, 1) := by decide +kernel
theorem dKT_init_74 : decode bKT_init 74 = .ok (.getfield 18, 3) := by decide +kernel
theorem dKT_init_77 : decode bKT_init 77 = .ok (.invokespecial 45, 3) := by decide +kernel
theorem dKT_init_80 : decode bKT_init 80 = .ok (.putfield 46, 3) := by decide +kernel
theorem dKT_init_83 : decode bKT_init 83 = .ok (.aload_n 0, 1) := by decide +kernel
theorem dKT_init_84 : decode bKT_init 84 = .ok (.aload_n 0, 1) := by decide +kernel
theorem dKT_init_85 : decode bKT_init 85 = .ok (.getfield 18, 3) := by decide +kernel
theorem dKT_init_88 : decode bKT_init 88 = .ok (.anewarray 50, 3) := by decide +kernel
theorem dKT_init_91 : decode bKT_init 91 = .ok (.putfield 52, 3) := by decide +kernel
theorem dKT_init_94 : decode bKT_init 94 = .ok (.iconst 0, 1) := by decide +kernel
theorem dKT_init_95 : decode bKT_init 95 = .ok (.istore_n 3, 1) := by decide +kernel
theorem dKT_init_96 : decode bKT_init 96 = .ok (.iload_n 3, 1) := by decide +kernel
theorem dKT_init_97 : decode bKT_init 97 = .ok (.aload_n 0, 1) := by decide +kernel
theorem dKT_init_98 : decode bKT_init 98 = .ok (.getfield 18, 3) := by decide +kernel
theorem dKT_init_101 : decode bKT_init 101 = .ok (.if_icmp .ge (22), 3) := by decide +kernel
theorem dKT_init_104 : decode bKT_init 104 = .ok (.aload_n 0, 1) := by decide +kernel
theorem dKT_init_105 : decode bKT_init 105 = .ok (.getfield 52, 3) := by decide +kernel
theorem dKT_init_108 : decode bKT_init 108 = .ok (.iload_n 3, 1) := by decide +kernel
theorem dKT_init_109 : decode bKT_init 109 = .ok (.new 50, 3) := by decide +kernel
theorem dKT_init_112 : decode bKT_init 112 = .ok (.dup, 1) := by decide +kernel
theorem dKT_init_113 : decode bKT_init 113 = .ok (.invokespecial 56, 3) := by decide +kernel
theorem dKT_init_116 : decode bKT_init 116 = .ok (.aastore, 1) := by decide +kernel
theorem dKT_init_117 : decode bKT_init 117 = .ok (.iinc 3 (1), 3) := by decide +kernel
theorem dKT_init_120 : decode bKT_init 120 = .ok (.goto (-24), 3) := by decide +kernel
theorem dKT_init_123 : decode bKT_init 123 = .ok (.return_, 1) := by decide +kernel
theorem dKT_example_0 : decode bKT_example 0 = .ok (.aload_n 0, 1) := by decide +kernel
theorem dKT_example_1 : decode bKT_example 1 = .ok (.iload_n 1, 1) := by decide +kernel
theorem dKT_example_2 : decode bKT_example 2 = .ok (.invokevirtual 57, 3) := by decide +kernel
theorem dKT_example_5 : decode bKT_example 5 = .ok (.aload_n 0, 1) := by decide +kernel
theorem dKT_example_6 : decode bKT_example 6 = .ok (.getfield 30, 3) := by decide +kernel
theorem dKT_example_9 : decode bKT_example 9 = .ok (.getfield 60, 3) := by decide +kernel
theorem dKT_example_12 : decode bKT_example 12 = .ok (.bipush (24), 2) := by decide +kernel
theorem dKT_example_14 : decode bKT_example 14 = .ok (.if_icmp .lt (13), 3) := by decide +kernel
theorem dKT_example_17 : decode bKT_example 17 = .ok (.new 63, 3) := by decide +kernel
theorem dKT_example_20 : decode bKT_example 20 = .ok (.dup, 1) := by decide +kernel
theorem dKT_example_21 : decode bKT_example 21 = .ok (.ldc 65, 2) := by decide +kernel
theorem dKT_example_23 : decode bKT_example 23 = .ok (.invokespecial 67, 3) := by decide +kernel
theorem dKT_example_26 : decode bKT_example 26 = .ok (.athrow, 1) := by decide +kernel
theorem dKT_example_27 : decode bKT_example 27 = .ok (.aload_n 0, 1) := by decide +kernel
theorem dKT_example_28 : decode bKT_example 28 = .ok (.getfield 30, 3) := by decide +kernel
theorem dKT_example_31 : decode bKT_example 31 = .ok (.iload_n 1, 1) := by decide +kernel
theorem dKT_example_32 : decode bKT_example 32 = .ok (.invokevirtual 70, 3) := by decide +kernel
theorem dKT_example_35 : decode bKT_example 35 = .ok (.ireturn, 1) := by decide +kernel
theorem dKT_value_0 : decode bKT_value 0 = .ok (.aload_n 0, 1) := by decide +kernel
theorem dKT_value_1 : decode bKT_value 1 = .ok (.iload_n 1, 1) := by decide +kernel
theorem dKT_value_2 : decode bKT_value 2 = .ok (.invokevirtual 74, 3) := by decide +kernel
theorem dKT_value_5 : decode bKT_value 5 = .ok (.aload_n 0, 1) := by decide +kernel
theorem dKT_value_6 : decode bKT_value 6 = .ok (.iload_n 2, 1) := by decide +kernel
theorem dKT_value_7 : decode bKT_value 7 = .ok (.invokevirtual 77, 3) := by decide +kernel
theorem dKT_value_10 : decode bKT_value 10 = .ok (.iload_n 3, 1) := by decide +kernel
theorem dKT_value_11 : decode bKT_value 11 = .ok (.iconst 0, 1) := by decide +kernel
theorem dKT_value_12 : decode bKT_value 12 = .ok (.sipush (2000), 3) := by decide +kernel
theorem dKT_value_15 : decode bKT_value 15 = .ok (.invokestatic 80, 3) := by decide +kernel
theorem dKT_value_18 : decode bKT_value 18 = .ok (.aload_n 0, 1) := by decide +kernel
theorem dKT_value_19 : decode bKT_value 19 = .ok (.getfield 30, 3) := by decide +kernel
theorem dKT_value_22 : decode bKT_value 22 = .ok (.getfield 84, 3) := by decide +kernel
theorem dKT_value_25 : decode bKT_value 25 = .ok (.iload_n 1, 1) := by decide +kernel
theorem dKT_value_26 : decode bKT_value 26 = .ok (.aaload, 1) := by decide +kernel
theorem dKT_value_27 : decode bKT_value 27 = .ok (.iload_n 2, 1) := by decide +kernel
theorem dKT_value_28 : decode bKT_value 28 = .ok (.iaload, 1) := by decide +kernel
theorem dKT_value_29 : decode bKT_value 29 = .ok (.istore 4, 2) := by decide +kernel
theorem dKT_value_31 : decode bKT_value 31 = .ok (.aload_n 0, 1) := by decide +kernel
theorem dKT_value_32 : decode bKT_value 32 = .ok (.getfield 30, 3) := by decide +kernel
theorem dKT_value_35 : decode bKT_value 35 = .ok (.getfield 84, 3) := by decide +kernel
theorem dKT_value_38 : decode bKT_value 38 = .ok (.iload_n 1, 1) := by decide +kernel
theorem dKT_value_39 : decode bKT_value 39 = .ok (.aaload, 1) := by decide +kernel
theorem dKT_value_40 : decode bKT_value 40 = .ok (.iload_n 2, 1) := by decide +kernel
theorem dKT_value_41 : decode bKT_value 41 = .ok (.iload_n 3, 1) := by decide +kernel
theorem dKT_value_42 : decode bKT_value 42 = .ok (.iastore, 1) := by decide +kernel
theorem dKT_value_43 : decode bKT_value 43 = .ok (.iload 4, 2) := by decide +kernel
theorem dKT_value_45 : decode bKT_value 45 = .ok (.iload_n 3, 1) := by decide +kernel
theorem dKT_value_46 : decode bKT_value 46 = .ok (.if_icmp .eq (7), 3) := by decide +kernel
theorem dKT_value_49 : decode bKT_value 49 = .ok (.iconst 1, 1) := by decide +kernel
theorem dKT_value_50 : decode bKT_value 50 = .ok (.goto (4), 3) := by decide +kernel
theorem dKT_value_53 : decode bKT_value 53 = .ok (.iconst 0, 1) := by decide +kernel
theorem dKT_value_54 : decode bKT_value 54 = .ok (.ireturn, 1) := by decide +kernel
theorem dKT_teach_0 : decode bKT_teach 0 = .ok (.aload_n 0, 1) := by decide +kernel
theorem dKT_teach_1 : decode bKT_teach 1 = .ok (.iload_n 1, 1) := by decide +kernel
theorem dKT_teach_2 : decode bKT_teach 2 = .ok (.invokevirtual 74, 3) := by decide +kernel
theorem dKT_teach_5 : decode bKT_teach 5 = .ok (.aload_n 0, 1) := by decide +kernel
theorem dKT_teach_6 : decode bKT_teach 6 = .ok (.iload_n 2, 1) := by decide +kernel
theorem dKT_teach_7 : decode bKT_teach 7 = .ok (.invokevirtual 57, 3) := by decide +kernel
theorem dKT_teach_10 : decode bKT_teach 10 = .ok (.aload_n 0, 1) := by decide +kernel
theorem dKT_teach_11 : decode bKT_teach 11 = .ok (.getfield 30, 3) := by decide +kernel
theorem dKT_teach_14 : decode bKT_teach 14 = .ok (.getfield 88, 3) := by decide +kernel
theorem dKT_teach_17 : decode bKT_teach 17 = .ok (.iload_n 1, 1) := by decide +kernel
theorem dKT_teach_18 : decode bKT_teach 18 = .ok (.iaload, 1) := by decide +kernel
theorem dKT_teach_19 : decode bKT_teach 19 = .ok (.istore_n 3, 1) := by decide +kernel
theorem dKT_teach_20 : decode bKT_teach 20 = .ok (.aload_n 0, 1) := by decide +kernel
theorem dKT_teach_21 : decode bKT_teach 21 = .ok (.getfield 30, 3) := by decide +kernel
theorem dKT_teach_24 : decode bKT_teach 24 = .ok (.getfield 88, 3) := by decide +kernel
theorem dKT_teach_27 : decode bKT_teach 27 = .ok (.iload_n 1, 1) := by decide +kernel
theorem dKT_teach_28 : decode bKT_teach 28 = .ok (.iload_n 2, 1) := by decide +kernel
theorem dKT_teach_29 : decode bKT_teach 29 = .ok (.iastore, 1) := by decide +kernel
theorem dKT_teach_30 : decode bKT_teach 30 = .ok (.iload_n 3, 1) := by decide +kernel
theorem dKT_teach_31 : decode bKT_teach 31 = .ok (.ireturn, 1) := by decide +kernel
theorem dKT_width_0 : decode bKT_width 0 = .ok (.aload_n 0, 1) := by decide +kernel
theorem dKT_width_1 : decode bKT_width 1 = .ok (.iload_n 1, 1) := by decide +kernel
theorem dKT_width_2 : decode bKT_width 2 = .ok (.invokevirtual 77, 3) := by decide +kernel
theorem dKT_width_5 : decode bKT_width 5 = .ok (.iload_n 2, 1) := by decide +kernel
theorem dKT_width_6 : decode bKT_width 6 = .ok (.iconst 1, 1) := by decide +kernel
theorem dKT_width_7 : decode bKT_width 7 = .ok (.sipush (1000), 3) := by decide +kernel
theorem dKT_width_10 : decode bKT_width 10 = .ok (.invokestatic 80, 3) := by decide +kernel
theorem dKT_width_13 : decode bKT_width 13 = .ok (.aload_n 0, 1) := by decide +kernel
theorem dKT_width_14 : decode bKT_width 14 = .ok (.getfield 30, 3) := by decide +kernel
theorem dKT_width_17 : decode bKT_width 17 = .ok (.getfield 92, 3) := by decide +kernel
theorem dKT_width_20 : decode bKT_width 20 = .ok (.iload_n 1, 1) := by decide +kernel
theorem dKT_width_21 : decode bKT_width 21 = .ok (.iaload, 1) := by decide +kernel
theorem dKT_width_22 : decode bKT_width 22 = .ok (.istore_n 3, 1) := by decide +kernel
theorem dKT_width_23 : decode bKT_width 23 = .ok (.aload_n 0, 1) := by decide +kernel
theorem dKT_width_24 : decode bKT_width 24 = .ok (.getfield 30, 3) := by decide +kernel
theorem dKT_width_27 : decode bKT_width 27 = .ok (.getfield 92, 3) := by decide +kernel
theorem dKT_width_30 : decode bKT_width 30 = .ok (.iload_n 1, 1) := by decide +kernel
theorem dKT_width_31 : decode bKT_width 31 = .ok (.iload_n 2, 1) := by decide +kernel
theorem dKT_width_32 : decode bKT_width 32 = .ok (.iastore, 1) := by decide +kernel
theorem dKT_width_33 : decode bKT_width 33 = .ok (.iload_n 3, 1) := by decide +kernel
theorem dKT_width_34 : decode bKT_width 34 = .ok (.ireturn, 1) := by decide +kernel
theorem dKT_cell_0 : decode bKT_cell 0 = .ok (.aload_n 0, 1) := by decide +kernel
theorem dKT_cell_1 : decode bKT_cell 1 = .ok (.iload_n 1, 1) := by decide +kernel
theorem dKT_cell_2 : decode bKT_cell 2 = .ok (.invokevirtual 74, 3) := by decide +kernel
theorem dKT_cell_5 : decode bKT_cell 5 = .ok (.aload_n 0, 1) := by decide +kernel
theorem dKT_cell_6 : decode bKT_cell 6 = .ok (.iload_n 2, 1) := by decide +kernel
theorem dKT_cell_7 : decode bKT_cell 7 = .ok (.invokevirtual 77, 3) := by decide +kernel
theorem dKT_cell_10 : decode bKT_cell 10 = .ok (.aload_n 0, 1) := by decide +kernel
theorem dKT_cell_11 : decode bKT_cell 11 = .ok (.getfield 30, 3) := by decide +kernel
theorem dKT_cell_14 : decode bKT_cell 14 = .ok (.iload_n 1, 1) := by decide +kernel
theorem dKT_cell_15 : decode bKT_cell 15 = .ok (.iload_n 2, 1) := by decide +kernel
theorem dKT_cell_16 : decode bKT_cell 16 = .ok (.invokevirtual 95, 3) := by decide +kernel
theorem dKT_cell_19 : decode bKT_cell 19 = .ok (.ireturn, 1) := by decide +kernel
theorem dKT_votes_0 : decode bKT_votes 0 = .ok (.aload_n 0, 1) := by decide +kernel
theorem dKT_votes_1 : decode bKT_votes 1 = .ok (.iload_n 1, 1) := by decide +kernel
theorem dKT_votes_2 : decode bKT_votes 2 = .ok (.invokevirtual 74, 3) := by decide +kernel
theorem dKT_votes_5 : decode bKT_votes 5 = .ok (.aload_n 0, 1) := by decide +kernel
theorem dKT_votes_6 : decode bKT_votes 6 = .ok (.iload_n 2, 1) := by decide +kernel
theorem dKT_votes_7 : decode bKT_votes 7 = .ok (.invokevirtual 98, 3) := by decide +kernel
theorem dKT_votes_10 : decode bKT_votes 10 = .ok (.aload_n 0, 1) := by decide +kernel
theorem dKT_votes_11 : decode bKT_votes 11 = .ok (.getfield 39, 3) := by decide +kernel
theorem dKT_votes_14 : decode bKT_votes 14 = .ok (.iload_n 1, 1) := by decide +kernel
theorem dKT_votes_15 : decode bKT_votes 15 = .ok (.iload_n 2, 1) := by decide +kernel
theorem dKT_votes_16 : decode bKT_votes 16 = .ok (.invokevirtual 101, 3) := by decide +kernel
theorem dKT_votes_19 : decode bKT_votes 19 = .ok (.ireturn, 1) := by decide +kernel
theorem dKT_tell_0 : decode bKT_tell 0 = .ok (.aload_n 0, 1) := by decide +kernel
theorem dKT_tell_1 : decode bKT_tell 1 = .ok (.iload_n 1, 1) := by decide +kernel
theorem dKT_tell_2 : decode bKT_tell 2 = .ok (.invokevirtual 74, 3) := by decide +kernel
theorem dKT_tell_5 : decode bKT_tell 5 = .ok (.aload_n 0, 1) := by decide +kernel
theorem dKT_tell_6 : decode bKT_tell 6 = .ok (.getfield 39, 3) := by decide +kernel
theorem dKT_tell_9 : decode bKT_tell 9 = .ok (.iload_n 1, 1) := by decide +kernel
theorem dKT_tell_10 : decode bKT_tell 10 = .ok (.invokevirtual 104, 3) := by decide +kernel
theorem dKT_tell_13 : decode bKT_tell 13 = .ok (.ireturn, 1) := by decide +kernel
theorem dKT_bound_0 : decode bKT_bound 0 = .ok (.iload_n 1, 1) := by decide +kernel
theorem dKT_bound_1 : decode bKT_bound 1 = .ok (.iconst 0, 1) := by decide +kernel
theorem dKT_bound_2 : decode bKT_bound 2 = .ok (.sipush (1000), 3) := by decide +kernel
theorem dKT_bound_5 : decode bKT_bound 5 = .ok (.invokestatic 80, 3) := by decide +kernel
theorem dKT_bound_8 : decode bKT_bound 8 = .ok (.aload_n 0, 1) := by decide +kernel
theorem dKT_bound_9 : decode bKT_bound 9 = .ok (.getfield 39, 3) := by decide +kernel
theorem dKT_bound_12 : decode bKT_bound 12 = .ok (.getfield 107, 3) := by decide +kernel
theorem dKT_bound_15 : decode bKT_bound 15 = .ok (.istore_n 2, 1) := by decide +kernel
theorem dKT_bound_16 : decode bKT_bound 16 = .ok (.aload_n 0, 1) := by decide +kernel
theorem dKT_bound_17 : decode bKT_bound 17 = .ok (.getfield 39, 3) := by decide +kernel
theorem dKT_bound_20 : decode bKT_bound 20 = .ok (.iload_n 1, 1) := by decide +kernel
theorem dKT_bound_21 : decode bKT_bound 21 = .ok (.putfield 107, 3) := by decide +kernel
theorem dKT_bound_24 : decode bKT_bound 24 = .ok (.iload_n 2, 1) := by decide +kernel
theorem dKT_bound_25 : decode bKT_bound 25 = .ok (.ireturn, 1) := by decide +kernel
theorem dKT_prefer_0 : decode bKT_prefer 0 = .ok (.aload_n 0, 1) := by decide +kernel
theorem dKT_prefer_1 : decode bKT_prefer 1 = .ok (.iload_n 1, 1) := by decide +kernel
theorem dKT_prefer_2 : decode bKT_prefer 2 = .ok (.invokevirtual 98, 3) := by decide +kernel
theorem dKT_prefer_5 : decode bKT_prefer 5 = .ok (.aload_n 0, 1) := by decide +kernel
theorem dKT_prefer_6 : decode bKT_prefer 6 = .ok (.getfield 39, 3) := by decide +kernel
theorem dKT_prefer_9 : decode bKT_prefer 9 = .ok (.iload_n 1, 1) := by decide +kernel
theorem dKT_prefer_10 : decode bKT_prefer 10 = .ok (.invokevirtual 110, 3) := by decide +kernel
theorem dKT_prefer_13 : decode bKT_prefer 13 = .ok (.ireturn, 1) := by decide +kernel
theorem dKT_wrong_0 : decode bKT_wrong 0 = .ok (.aload_n 0, 1) := by decide +kernel
theorem dKT_wrong_1 : decode bKT_wrong 1 = .ok (.iload_n 1, 1) := by decide +kernel
theorem dKT_wrong_2 : decode bKT_wrong 2 = .ok (.invokevirtual 98, 3) := by decide +kernel
theorem dKT_wrong_5 : decode bKT_wrong 5 = .ok (.aload_n 0, 1) := by decide +kernel
theorem dKT_wrong_6 : decode bKT_wrong 6 = .ok (.iload_n 2, 1) := by decide +kernel
theorem dKT_wrong_7 : decode bKT_wrong 7 = .ok (.invokevirtual 57, 3) := by decide +kernel
theorem dKT_wrong_10 : decode bKT_wrong 10 = .ok (.iload_n 3, 1) := by decide +kernel
theorem dKT_wrong_11 : decode bKT_wrong 11 = .ok (.invokestatic 113, 3) := by decide +kernel
theorem dKT_wrong_14 : decode bKT_wrong 14 = .ok (.aload_n 0, 1) := by decide +kernel
theorem dKT_wrong_15 : decode bKT_wrong 15 = .ok (.getfield 39, 3) := by decide +kernel
theorem dKT_wrong_18 : decode bKT_wrong 18 = .ok (.iload_n 1, 1) := by decide +kernel
theorem dKT_wrong_19 : decode bKT_wrong 19 = .ok (.iload_n 2, 1) := by decide +kernel
theorem dKT_wrong_20 : decode bKT_wrong 20 = .ok (.invokevirtual 116, 3) := by decide +kernel
theorem dKT_wrong_23 : decode bKT_wrong 23 = .ok (.i2l, 1) := by decide +kernel
theorem dKT_wrong_24 : decode bKT_wrong 24 = .ok (.aload_n 0, 1) := by decide +kernel
theorem dKT_wrong_25 : decode bKT_wrong 25 = .ok (.getfield 30, 3) := by decide +kernel
theorem dKT_wrong_28 : decode bKT_wrong 28 = .ok (.iload_n 1, 1) := by decide +kernel
theorem dKT_wrong_29 : decode bKT_wrong 29 = .ok (.invokevirtual 119, 3) := by decide +kernel
theorem dKT_wrong_32 : decode bKT_wrong 32 = .ok (.i2l, 1) := by decide +kernel
theorem dKT_wrong_33 : decode bKT_wrong 33 = .ok (.iload_n 3, 1) := by decide +kernel
theorem dKT_wrong_34 : decode bKT_wrong 34 = .ok (.invokestatic 122, 3) := by decide +kernel
theorem dKT_wrong_37 : decode bKT_wrong 37 = .ok (.l2i, 1) := by decide +kernel
theorem dKT_wrong_38 : decode bKT_wrong 38 = .ok (.ireturn, 1) := by decide +kernel
theorem dKT_right_0 : decode bKT_right 0 = .ok (.aload_n 0, 1) := by decide +kernel
theorem dKT_right_1 : decode bKT_right 1 = .ok (.iload_n 1, 1) := by decide +kernel
theorem dKT_right_2 : decode bKT_right 2 = .ok (.invokevirtual 77, 3) := by decide +kernel
theorem dKT_right_5 : decode bKT_right 5 = .ok (.aload_n 0, 1) := by decide +kernel
theorem dKT_right_6 : decode bKT_right 6 = .ok (.getfield 39, 3) := by decide +kernel
theorem dKT_right_9 : decode bKT_right 9 = .ok (.iload_n 1, 1) := by decide +kernel
theorem dKT_right_10 : decode bKT_right 10 = .ok (.invokevirtual 126, 3) := by decide +kernel
theorem dKT_right_13 : decode bKT_right 13 = .ok (.ireturn, 1) := by decide +kernel
theorem dKT_best_0 : decode bKT_best 0 = .ok (.aload_n 0, 1) := by decide +kernel
theorem dKT_best_1 : decode bKT_best 1 = .ok (.iload_n 1, 1) := by decide +kernel
theorem dKT_best_2 : decode bKT_best 2 = .ok (.invokevirtual 77, 3) := by decide +kernel
theorem dKT_best_5 : decode bKT_best 5 = .ok (.aload_n 0, 1) := by decide +kernel
theorem dKT_best_6 : decode bKT_best 6 = .ok (.getfield 39, 3) := by decide +kernel
theorem dKT_best_9 : decode bKT_best 9 = .ok (.iload_n 1, 1) := by decide +kernel
theorem dKT_best_10 : decode bKT_best 10 = .ok (.invokevirtual 129, 3) := by decide +kernel
theorem dKT_best_13 : decode bKT_best 13 = .ok (.ireturn, 1) := by decide +kernel
theorem dKT_unknown_0 : decode bKT_unknown 0 = .ok (.aload_n 0, 1) := by decide +kernel
theorem dKT_unknown_1 : decode bKT_unknown 1 = .ok (.getfield 39, 3) := by decide +kernel
theorem dKT_unknown_4 : decode bKT_unknown 4 = .ok (.invokevirtual 132, 3) := by decide +kernel
theorem dKT_unknown_7 : decode bKT_unknown 7 = .ok (.ireturn, 1) := by decide +kernel
theorem dKT_mixed_0 : decode bKT_mixed 0 = .ok (.aload_n 0, 1) := by decide +kernel
theorem dKT_mixed_1 : decode bKT_mixed 1 = .ok (.iload_n 1, 1) := by decide +kernel
theorem dKT_mixed_2 : decode bKT_mixed 2 = .ok (.invokevirtual 98, 3) := by decide +kernel
theorem dKT_mixed_5 : decode bKT_mixed 5 = .ok (.iload_n 2, 1) := by decide +kernel
theorem dKT_mixed_6 : decode bKT_mixed 6 = .ok (.invokestatic 113, 3) := by decide +kernel
theorem dKT_mixed_9 : decode bKT_mixed 9 = .ok (.aload_n 0, 1) := by decide +kernel
theorem dKT_mixed_10 : decode bKT_mixed 10 = .ok (.getfield 30, 3) := by decide +kernel
theorem dKT_mixed_13 : decode bKT_mixed 13 = .ok (.iconst (-1), 1) := by decide +kernel
theorem dKT_mixed_14 : decode bKT_mixed 14 = .ok (.invokevirtual 119, 3) := by decide +kernel
theorem dKT_mixed_17 : decode bKT_mixed 17 = .ok (.aload_n 0, 1) := by decide +kernel
theorem dKT_mixed_18 : decode bKT_mixed 18 = .ok (.getfield 39, 3) := by decide +kernel
theorem dKT_mixed_21 : decode bKT_mixed 21 = .ok (.iconst (-1), 1) := by decide +kernel
theorem dKT_mixed_22 : decode bKT_mixed 22 = .ok (.iconst (-1), 1) := by decide +kernel
theorem dKT_mixed_23 : decode bKT_mixed 23 = .ok (.invokevirtual 116, 3) := by decide +kernel
theorem dKT_mixed_26 : decode bKT_mixed 26 = .ok (.isub, 1) := by decide +kernel
theorem dKT_mixed_27 : decode bKT_mixed 27 = .ok (.istore_n 3, 1) := by decide +kernel
theorem dKT_mixed_28 : decode bKT_mixed 28 = .ok (.aload_n 0, 1) := by decide +kernel
theorem dKT_mixed_29 : decode bKT_mixed 29 = .ok (.getfield 39, 3) := by decide +kernel
end
section
theorem dKT_mixed_32 : decode bKT_mixed 32 = .ok (.iconst (-1), 1) := by decide +kernel
theorem dKT_mixed_33 : decode bKT_mixed 33 = .ok (.iload_n 1, 1) := by decide +kernel
theorem dKT_mixed_34 : decode bKT_mixed 34 = .ok (.invokevirtual 116, 3) := by decide +kernel
theorem dKT_mixed_37 : decode bKT_mixed 37 = .ok (.i2l, 1) := by decide +kernel
theorem dKT_mixed_38 : decode bKT_mixed 38 = .ok (.iload_n 3, 1) := by decide +kernel
theorem dKT_mixed_39 : decode bKT_mixed 39 = .ok (.i2l, 1) := by decide +kernel
theorem dKT_mixed_40 : decode bKT_mixed 40 = .ok (.iload_n 2, 1) := by decide +kernel
theorem dKT_mixed_41 : decode bKT_mixed 41 = .ok (.invokestatic 122, 3) := by decide +kernel
theorem dKT_mixed_44 : decode bKT_mixed 44 = .ok (.l2i, 1) := by decide +kernel
theorem dKT_mixed_45 : decode bKT_mixed 45 = .ok (.ireturn, 1) := by decide +kernel
theorem dKT_groups_0 : decode bKT_groups 0 = .ok (.iload_n 1, 1) := by decide +kernel
theorem dKT_groups_1 : decode bKT_groups 1 = .ok (.iconst 0, 1) := by decide +kernel
theorem dKT_groups_2 : decode bKT_groups 2 = .ok (.aload_n 0, 1) := by decide +kernel
theorem dKT_groups_3 : decode bKT_groups 3 = .ok (.getfield 22, 3) := by decide +kernel
theorem dKT_groups_6 : decode bKT_groups 6 = .ok (.invokestatic 80, 3) := by decide +kernel
theorem dKT_groups_9 : decode bKT_groups 9 = .ok (.aload_n 0, 1) := by decide +kernel
theorem dKT_groups_10 : decode bKT_groups 10 = .ok (.getfield 30, 3) := by decide +kernel
theorem dKT_groups_13 : decode bKT_groups 13 = .ok (.iload_n 1, 1) := by decide +kernel
theorem dKT_groups_14 : decode bKT_groups 14 = .ok (.invokevirtual 136, 3) := by decide +kernel
theorem dKT_groups_17 : decode bKT_groups 17 = .ok (.ireturn, 1) := by decide +kernel
theorem dKT_nearest_0 : decode bKT_nearest 0 = .ok (.aload_n 0, 1) := by decide +kernel
theorem dKT_nearest_1 : decode bKT_nearest 1 = .ok (.iload_n 1, 1) := by decide +kernel
theorem dKT_nearest_2 : decode bKT_nearest 2 = .ok (.invokevirtual 74, 3) := by decide +kernel
theorem dKT_nearest_5 : decode bKT_nearest 5 = .ok (.iload_n 2, 1) := by decide +kernel
theorem dKT_nearest_6 : decode bKT_nearest 6 = .ok (.ifCond .ge (13), 3) := by decide +kernel
theorem dKT_nearest_9 : decode bKT_nearest 9 = .ok (.new 139, 3) := by decide +kernel
theorem dKT_nearest_12 : decode bKT_nearest 12 = .ok (.dup, 1) := by decide +kernel
theorem dKT_nearest_13 : decode bKT_nearest 13 = .ok (.ldc 141, 2) := by decide +kernel
theorem dKT_nearest_15 : decode bKT_nearest 15 = .ok (.invokespecial 143, 3) := by decide +kernel
theorem dKT_nearest_18 : decode bKT_nearest 18 = .ok (.athrow, 1) := by decide +kernel
theorem dKT_nearest_19 : decode bKT_nearest 19 = .ok (.aload_n 0, 1) := by decide +kernel
theorem dKT_nearest_20 : decode bKT_nearest 20 = .ok (.getfield 30, 3) := by decide +kernel
theorem dKT_nearest_23 : decode bKT_nearest 23 = .ok (.iload_n 1, 1) := by decide +kernel
theorem dKT_nearest_24 : decode bKT_nearest 24 = .ok (.iload_n 2, 1) := by decide +kernel
theorem dKT_nearest_25 : decode bKT_nearest 25 = .ok (.invokevirtual 144, 3) := by decide +kernel
theorem dKT_nearest_28 : decode bKT_nearest 28 = .ok (.ireturn, 1) := by decide +kernel
theorem dKT_distance_0 : decode bKT_distance 0 = .ok (.aload_n 0, 1) := by decide +kernel
theorem dKT_distance_1 : decode bKT_distance 1 = .ok (.iload_n 1, 1) := by decide +kernel
theorem dKT_distance_2 : decode bKT_distance 2 = .ok (.invokevirtual 74, 3) := by decide +kernel
theorem dKT_distance_5 : decode bKT_distance 5 = .ok (.aload_n 0, 1) := by decide +kernel
theorem dKT_distance_6 : decode bKT_distance 6 = .ok (.iload_n 2, 1) := by decide +kernel
theorem dKT_distance_7 : decode bKT_distance 7 = .ok (.invokevirtual 74, 3) := by decide +kernel
theorem dKT_distance_10 : decode bKT_distance 10 = .ok (.aload_n 0, 1) := by decide +kernel
theorem dKT_distance_11 : decode bKT_distance 11 = .ok (.getfield 30, 3) := by decide +kernel
theorem dKT_distance_14 : decode bKT_distance 14 = .ok (.iload_n 1, 1) := by decide +kernel
theorem dKT_distance_15 : decode bKT_distance 15 = .ok (.iload_n 2, 1) := by decide +kernel
theorem dKT_distance_16 : decode bKT_distance 16 = .ok (.invokevirtual 147, 3) := by decide +kernel
theorem dKT_distance_19 : decode bKT_distance 19 = .ok (.ireturn, 1) := by decide +kernel
theorem dKT_haul_0 : decode bKT_haul 0 = .ok (.iload_n 1, 1) := by decide +kernel
theorem dKT_haul_1 : decode bKT_haul 1 = .ok (.iload_n 2, 1) := by decide +kernel
theorem dKT_haul_2 : decode bKT_haul 2 = .ok (.invokestatic 150, 3) := by decide +kernel
theorem dKT_haul_5 : decode bKT_haul 5 = .ok (.aload_n 0, 1) := by decide +kernel
theorem dKT_haul_6 : decode bKT_haul 6 = .ok (.getfield 46, 3) := by decide +kernel
theorem dKT_haul_9 : decode bKT_haul 9 = .ok (.getfield 154, 3) := by decide +kernel
theorem dKT_haul_12 : decode bKT_haul 12 = .ok (.bipush (12), 2) := by decide +kernel
theorem dKT_haul_14 : decode bKT_haul 14 = .ok (.if_icmp .lt (13), 3) := by decide +kernel
theorem dKT_haul_17 : decode bKT_haul 17 = .ok (.new 63, 3) := by decide +kernel
theorem dKT_haul_20 : decode bKT_haul 20 = .ok (.dup, 1) := by decide +kernel
theorem dKT_haul_21 : decode bKT_haul 21 = .ok (.ldc 155, 2) := by decide +kernel
theorem dKT_haul_23 : decode bKT_haul 23 = .ok (.invokespecial 67, 3) := by decide +kernel
theorem dKT_haul_26 : decode bKT_haul 26 = .ok (.athrow, 1) := by decide +kernel
theorem dKT_haul_27 : decode bKT_haul 27 = .ok (.aload_n 0, 1) := by decide +kernel
theorem dKT_haul_28 : decode bKT_haul 28 = .ok (.getfield 46, 3) := by decide +kernel
theorem dKT_haul_31 : decode bKT_haul 31 = .ok (.iload_n 1, 1) := by decide +kernel
theorem dKT_haul_32 : decode bKT_haul 32 = .ok (.iload_n 2, 1) := by decide +kernel
theorem dKT_haul_33 : decode bKT_haul 33 = .ok (.invokevirtual 157, 3) := by decide +kernel
theorem dKT_haul_36 : decode bKT_haul 36 = .ok (.ireturn, 1) := by decide +kernel
theorem dKT_grams_0 : decode bKT_grams 0 = .ok (.aload_n 0, 1) := by decide +kernel
theorem dKT_grams_1 : decode bKT_grams 1 = .ok (.iload_n 1, 1) := by decide +kernel
theorem dKT_grams_2 : decode bKT_grams 2 = .ok (.invokevirtual 159, 3) := by decide +kernel
theorem dKT_grams_5 : decode bKT_grams 5 = .ok (.aload_n 0, 1) := by decide +kernel
theorem dKT_grams_6 : decode bKT_grams 6 = .ok (.iload_n 2, 1) := by decide +kernel
theorem dKT_grams_7 : decode bKT_grams 7 = .ok (.invokevirtual 98, 3) := by decide +kernel
theorem dKT_grams_10 : decode bKT_grams 10 = .ok (.iload_n 3, 1) := by decide +kernel
theorem dKT_grams_11 : decode bKT_grams 11 = .ok (.iconst 0, 1) := by decide +kernel
theorem dKT_grams_12 : decode bKT_grams 12 = .ok (.sipush (1000), 3) := by decide +kernel
theorem dKT_grams_15 : decode bKT_grams 15 = .ok (.invokestatic 80, 3) := by decide +kernel
theorem dKT_grams_18 : decode bKT_grams 18 = .ok (.aload_n 0, 1) := by decide +kernel
theorem dKT_grams_19 : decode bKT_grams 19 = .ok (.getfield 46, 3) := by decide +kernel
theorem dKT_grams_22 : decode bKT_grams 22 = .ok (.getfield 162, 3) := by decide +kernel
theorem dKT_grams_25 : decode bKT_grams 25 = .ok (.iload_n 1, 1) := by decide +kernel
theorem dKT_grams_26 : decode bKT_grams 26 = .ok (.aaload, 1) := by decide +kernel
theorem dKT_grams_27 : decode bKT_grams 27 = .ok (.iload_n 2, 1) := by decide +kernel
theorem dKT_grams_28 : decode bKT_grams 28 = .ok (.iaload, 1) := by decide +kernel
theorem dKT_grams_29 : decode bKT_grams 29 = .ok (.istore 4, 2) := by decide +kernel
theorem dKT_grams_31 : decode bKT_grams 31 = .ok (.aload_n 0, 1) := by decide +kernel
theorem dKT_grams_32 : decode bKT_grams 32 = .ok (.getfield 46, 3) := by decide +kernel
theorem dKT_grams_35 : decode bKT_grams 35 = .ok (.getfield 162, 3) := by decide +kernel
theorem dKT_grams_38 : decode bKT_grams 38 = .ok (.iload_n 1, 1) := by decide +kernel
theorem dKT_grams_39 : decode bKT_grams 39 = .ok (.aaload, 1) := by decide +kernel
theorem dKT_grams_40 : decode bKT_grams 40 = .ok (.iload_n 2, 1) := by decide +kernel
theorem dKT_grams_41 : decode bKT_grams 41 = .ok (.iload_n 3, 1) := by decide +kernel
theorem dKT_grams_42 : decode bKT_grams 42 = .ok (.iastore, 1) := by decide +kernel
theorem dKT_grams_43 : decode bKT_grams 43 = .ok (.iload 4, 2) := by decide +kernel
theorem dKT_grams_45 : decode bKT_grams 45 = .ok (.ireturn, 1) := by decide +kernel
theorem dKT_share_0 : decode bKT_share 0 = .ok (.aload_n 0, 1) := by decide +kernel
theorem dKT_share_1 : decode bKT_share 1 = .ok (.iload_n 3, 1) := by decide +kernel
theorem dKT_share_2 : decode bKT_share 2 = .ok (.invokevirtual 98, 3) := by decide +kernel
theorem dKT_share_5 : decode bKT_share 5 = .ok (.iload 4, 2) := by decide +kernel
theorem dKT_share_7 : decode bKT_share 7 = .ok (.invokestatic 113, 3) := by decide +kernel
theorem dKT_share_10 : decode bKT_share 10 = .ok (.iload_n 1, 1) := by decide +kernel
theorem dKT_share_11 : decode bKT_share 11 = .ok (.iload_n 2, 1) := by decide +kernel
theorem dKT_share_12 : decode bKT_share 12 = .ok (.invokestatic 150, 3) := by decide +kernel
theorem dKT_share_15 : decode bKT_share 15 = .ok (.aload_n 0, 1) := by decide +kernel
theorem dKT_share_16 : decode bKT_share 16 = .ok (.getfield 46, 3) := by decide +kernel
theorem dKT_share_19 : decode bKT_share 19 = .ok (.iload_n 1, 1) := by decide +kernel
theorem dKT_share_20 : decode bKT_share 20 = .ok (.iload_n 2, 1) := by decide +kernel
theorem dKT_share_21 : decode bKT_share 21 = .ok (.iload_n 3, 1) := by decide +kernel
theorem dKT_share_22 : decode bKT_share 22 = .ok (.iload 4, 2) := by decide +kernel
theorem dKT_share_24 : decode bKT_share 24 = .ok (.invokevirtual 165, 3) := by decide +kernel
theorem dKT_share_27 : decode bKT_share 27 = .ok (.lreturn, 1) := by decide +kernel
theorem dKT_law_0 : decode bKT_law 0 = .ok (.aload_n 0, 1) := by decide +kernel
theorem dKT_law_1 : decode bKT_law 1 = .ok (.iload_n 1, 1) := by decide +kernel
theorem dKT_law_2 : decode bKT_law 2 = .ok (.invokevirtual 98, 3) := by decide +kernel
theorem dKT_law_5 : decode bKT_law 5 = .ok (.iload_n 2, 1) := by decide +kernel
theorem dKT_law_6 : decode bKT_law 6 = .ok (.iconst 1, 1) := by decide +kernel
theorem dKT_law_7 : decode bKT_law 7 = .ok (.sipush (1000), 3) := by decide +kernel
theorem dKT_law_10 : decode bKT_law 10 = .ok (.invokestatic 80, 3) := by decide +kernel
theorem dKT_law_13 : decode bKT_law 13 = .ok (.iload_n 3, 1) := by decide +kernel
theorem dKT_law_14 : decode bKT_law 14 = .ok (.iconst 0, 1) := by decide +kernel
theorem dKT_law_15 : decode bKT_law 15 = .ok (.sipush (2000), 3) := by decide +kernel
theorem dKT_law_18 : decode bKT_law 18 = .ok (.invokestatic 80, 3) := by decide +kernel
theorem dKT_law_21 : decode bKT_law 21 = .ok (.aload_n 0, 1) := by decide +kernel
theorem dKT_law_22 : decode bKT_law 22 = .ok (.getfield 52, 3) := by decide +kernel
theorem dKT_law_25 : decode bKT_law 25 = .ok (.iload_n 1, 1) := by decide +kernel
theorem dKT_law_26 : decode bKT_law 26 = .ok (.aaload, 1) := by decide +kernel
theorem dKT_law_27 : decode bKT_law 27 = .ok (.astore 4, 2) := by decide +kernel
theorem dKT_law_29 : decode bKT_law 29 = .ok (.iload_n 2, 1) := by decide +kernel
theorem dKT_law_30 : decode bKT_law 30 = .ok (.aload 4, 2) := by decide +kernel
theorem dKT_law_32 : decode bKT_law 32 = .ok (.invokevirtual 169, 3) := by decide +kernel
theorem dKT_law_35 : decode bKT_law 35 = .ok (.if_icmp .gt (13), 3) := by decide +kernel
theorem dKT_law_38 : decode bKT_law 38 = .ok (.new 139, 3) := by decide +kernel
theorem dKT_law_41 : decode bKT_law 41 = .ok (.dup, 1) := by decide +kernel
theorem dKT_law_42 : decode bKT_law 42 = .ok (.ldc 172, 2) := by decide +kernel
theorem dKT_law_44 : decode bKT_law 44 = .ok (.invokespecial 143, 3) := by decide +kernel
theorem dKT_law_47 : decode bKT_law 47 = .ok (.athrow, 1) := by decide +kernel
theorem dKT_law_48 : decode bKT_law 48 = .ok (.aload 4, 2) := by decide +kernel
theorem dKT_law_50 : decode bKT_law 50 = .ok (.getfield 174, 3) := by decide +kernel
theorem dKT_law_53 : decode bKT_law 53 = .ok (.bipush (6), 2) := by decide +kernel
theorem dKT_law_55 : decode bKT_law 55 = .ok (.if_icmp .lt (13), 3) := by decide +kernel
theorem dKT_law_58 : decode bKT_law 58 = .ok (.new 63, 3) := by decide +kernel
theorem dKT_law_61 : decode bKT_law 61 = .ok (.dup, 1) := by decide +kernel
theorem dKT_law_62 : decode bKT_law 62 = .ok (.ldc 177, 2) := by decide +kernel
theorem dKT_law_64 : decode bKT_law 64 = .ok (.invokespecial 67, 3) := by decide +kernel
theorem dKT_law_67 : decode bKT_law 67 = .ok (.athrow, 1) := by decide +kernel
theorem dKT_law_68 : decode bKT_law 68 = .ok (.aload 4, 2) := by decide +kernel
theorem dKT_law_70 : decode bKT_law 70 = .ok (.iload_n 2, 1) := by decide +kernel
theorem dKT_law_71 : decode bKT_law 71 = .ok (.iload_n 3, 1) := by decide +kernel
theorem dKT_law_72 : decode bKT_law 72 = .ok (.invokevirtual 179, 3) := by decide +kernel
theorem dKT_law_75 : decode bKT_law 75 = .ok (.ireturn, 1) := by decide +kernel
theorem dKT_strength_0 : decode bKT_strength 0 = .ok (.aload_n 0, 1) := by decide +kernel
theorem dKT_strength_1 : decode bKT_strength 1 = .ok (.iload_n 1, 1) := by decide +kernel
theorem dKT_strength_2 : decode bKT_strength 2 = .ok (.invokevirtual 98, 3) := by decide +kernel
theorem dKT_strength_5 : decode bKT_strength 5 = .ok (.aload_n 0, 1) := by decide +kernel
theorem dKT_strength_6 : decode bKT_strength 6 = .ok (.getfield 52, 3) := by decide +kernel
theorem dKT_strength_9 : decode bKT_strength 9 = .ok (.iload_n 1, 1) := by decide +kernel
theorem dKT_strength_10 : decode bKT_strength 10 = .ok (.aaload, 1) := by decide +kernel
theorem dKT_strength_11 : decode bKT_strength 11 = .ok (.iload_n 2, 1) := by decide +kernel
theorem dKT_strength_12 : decode bKT_strength 12 = .ok (.invokevirtual 180, 3) := by decide +kernel
theorem dKT_strength_15 : decode bKT_strength 15 = .ok (.ireturn, 1) := by decide +kernel
theorem dKT_length_0 : decode bKT_length 0 = .ok (.aload_n 0, 1) := by decide +kernel
theorem dKT_length_1 : decode bKT_length 1 = .ok (.iload_n 1, 1) := by decide +kernel
theorem dKT_length_2 : decode bKT_length 2 = .ok (.invokevirtual 98, 3) := by decide +kernel
theorem dKT_length_5 : decode bKT_length 5 = .ok (.aload_n 0, 1) := by decide +kernel
theorem dKT_length_6 : decode bKT_length 6 = .ok (.getfield 52, 3) := by decide +kernel
theorem dKT_length_9 : decode bKT_length 9 = .ok (.iload_n 1, 1) := by decide +kernel
theorem dKT_length_10 : decode bKT_length 10 = .ok (.aaload, 1) := by decide +kernel
theorem dKT_length_11 : decode bKT_length 11 = .ok (.iload_n 2, 1) := by decide +kernel
theorem dKT_length_12 : decode bKT_length 12 = .ok (.invokevirtual 183, 3) := by decide +kernel
theorem dKT_length_15 : decode bKT_length 15 = .ok (.ireturn, 1) := by decide +kernel
theorem dKT_count_0 : decode bKT_count 0 = .ok (.iload_n 1, 1) := by decide +kernel
theorem dKT_count_1 : decode bKT_count 1 = .ok (.tableswitch (78) (0) (4) #[35, 43, 60, 68, 73], 35) := by decide +kernel
theorem dKT_count_36 : decode bKT_count 36 = .ok (.aload_n 0, 1) := by decide +kernel
theorem dKT_count_37 : decode bKT_count 37 = .ok (.getfield 30, 3) := by decide +kernel
theorem dKT_count_40 : decode bKT_count 40 = .ok (.getfield 60, 3) := by decide +kernel
theorem dKT_count_43 : decode bKT_count 43 = .ok (.ireturn, 1) := by decide +kernel
theorem dKT_count_44 : decode bKT_count 44 = .ok (.aload_n 0, 1) := by decide +kernel
theorem dKT_count_45 : decode bKT_count 45 = .ok (.getfield 30, 3) := by decide +kernel
theorem dKT_count_48 : decode bKT_count 48 = .ok (.getfield 60, 3) := by decide +kernel
theorem dKT_count_51 : decode bKT_count 51 = .ok (.aload_n 0, 1) := by decide +kernel
theorem dKT_count_52 : decode bKT_count 52 = .ok (.getfield 30, 3) := by decide +kernel
theorem dKT_count_55 : decode bKT_count 55 = .ok (.iconst (-1), 1) := by decide +kernel
theorem dKT_count_56 : decode bKT_count 56 = .ok (.invokevirtual 119, 3) := by decide +kernel
theorem dKT_count_59 : decode bKT_count 59 = .ok (.isub, 1) := by decide +kernel
theorem dKT_count_60 : decode bKT_count 60 = .ok (.ireturn, 1) := by decide +kernel
theorem dKT_count_61 : decode bKT_count 61 = .ok (.aload_n 0, 1) := by decide +kernel
theorem dKT_count_62 : decode bKT_count 62 = .ok (.getfield 46, 3) := by decide +kernel
theorem dKT_count_65 : decode bKT_count 65 = .ok (.getfield 154, 3) := by decide +kernel
theorem dKT_count_68 : decode bKT_count 68 = .ok (.ireturn, 1) := by decide +kernel
theorem dKT_count_69 : decode bKT_count 69 = .ok (.aload_n 0, 1) := by decide +kernel
theorem dKT_count_70 : decode bKT_count 70 = .ok (.getfield 18, 3) := by decide +kernel
theorem dKT_count_73 : decode bKT_count 73 = .ok (.ireturn, 1) := by decide +kernel
theorem dKT_count_74 : decode bKT_count 74 = .ok (.aload_n 0, 1) := by decide +kernel
theorem dKT_count_75 : decode bKT_count 75 = .ok (.getfield 22, 3) := by decide +kernel
theorem dKT_count_78 : decode bKT_count 78 = .ok (.ireturn, 1) := by decide +kernel
theorem dKT_count_79 : decode bKT_count 79 = .ok (.iconst (-1), 1) := by decide +kernel
theorem dKT_count_80 : decode bKT_count 80 = .ok (.ireturn, 1) := by decide +kernel
theorem dKT_needKind_0 : decode bKT_needKind 0 = .ok (.iload_n 1, 1) := by decide +kernel
theorem dKT_needKind_1 : decode bKT_needKind 1 = .ok (.ifCond .lt (11), 3) := by decide +kernel
theorem dKT_needKind_4 : decode bKT_needKind 4 = .ok (.iload_n 1, 1) := by decide +kernel
theorem dKT_needKind_5 : decode bKT_needKind 5 = .ok (.aload_n 0, 1) := by decide +kernel
theorem dKT_needKind_6 : decode bKT_needKind 6 = .ok (.getfield 18, 3) := by decide +kernel
theorem dKT_needKind_9 : decode bKT_needKind 9 = .ok (.if_icmp .lt (13), 3) := by decide +kernel
theorem dKT_needKind_12 : decode bKT_needKind 12 = .ok (.new 186, 3) := by decide +kernel
theorem dKT_needKind_15 : decode bKT_needKind 15 = .ok (.dup, 1) := by decide +kernel
theorem dKT_needKind_16 : decode bKT_needKind 16 = .ok (.ldc 188, 2) := by decide +kernel
theorem dKT_needKind_18 : decode bKT_needKind 18 = .ok (.invokespecial 190, 3) := by decide +kernel
theorem dKT_needKind_21 : decode bKT_needKind 21 = .ok (.athrow, 1) := by decide +kernel
theorem dKT_needKind_22 : decode bKT_needKind 22 = .ok (.return_, 1) := by decide +kernel
theorem dKT_needKindOrNone_0 : decode bKT_needKindOrNone 0 = .ok (.iload_n 1, 1) := by decide +kernel
theorem dKT_needKindOrNone_1 : decode bKT_needKindOrNone 1 = .ok (.iconst (-1), 1) := by decide +kernel
theorem dKT_needKindOrNone_2 : decode bKT_needKindOrNone 2 = .ok (.if_icmp .eq (8), 3) := by decide +kernel
theorem dKT_needKindOrNone_5 : decode bKT_needKindOrNone 5 = .ok (.aload_n 0, 1) := by decide +kernel
theorem dKT_needKindOrNone_6 : decode bKT_needKindOrNone 6 = .ok (.iload_n 1, 1) := by decide +kernel
theorem dKT_needKindOrNone_7 : decode bKT_needKindOrNone 7 = .ok (.invokevirtual 98, 3) := by decide +kernel
theorem dKT_needKindOrNone_10 : decode bKT_needKindOrNone 10 = .ok (.return_, 1) := by decide +kernel
theorem dKT_needFeature_0 : decode bKT_needFeature 0 = .ok (.iload_n 1, 1) := by decide +kernel
theorem dKT_needFeature_1 : decode bKT_needFeature 1 = .ok (.ifCond .lt (11), 3) := by decide +kernel
theorem dKT_needFeature_4 : decode bKT_needFeature 4 = .ok (.iload_n 1, 1) := by decide +kernel
theorem dKT_needFeature_5 : decode bKT_needFeature 5 = .ok (.aload_n 0, 1) := by decide +kernel
theorem dKT_needFeature_6 : decode bKT_needFeature 6 = .ok (.getfield 22, 3) := by decide +kernel
theorem dKT_needFeature_9 : decode bKT_needFeature 9 = .ok (.if_icmp .lt (13), 3) := by decide +kernel
theorem dKT_needFeature_12 : decode bKT_needFeature 12 = .ok (.new 186, 3) := by decide +kernel
theorem dKT_needFeature_15 : decode bKT_needFeature 15 = .ok (.dup, 1) := by decide +kernel
theorem dKT_needFeature_16 : decode bKT_needFeature 16 = .ok (.ldc 191, 2) := by decide +kernel
theorem dKT_needFeature_18 : decode bKT_needFeature 18 = .ok (.invokespecial 190, 3) := by decide +kernel
theorem dKT_needFeature_21 : decode bKT_needFeature 21 = .ok (.athrow, 1) := by decide +kernel
theorem dKT_needFeature_22 : decode bKT_needFeature 22 = .ok (.return_, 1) := by decide +kernel
theorem dKT_needExample_0 : decode bKT_needExample 0 = .ok (.iload_n 1, 1) := by decide +kernel
theorem dKT_needExample_1 : decode bKT_needExample 1 = .ok (.ifCond .lt (14), 3) := by decide +kernel
theorem dKT_needExample_4 : decode bKT_needExample 4 = .ok (.iload_n 1, 1) := by decide +kernel
theorem dKT_needExample_5 : decode bKT_needExample 5 = .ok (.aload_n 0, 1) := by decide +kernel
theorem dKT_needExample_6 : decode bKT_needExample 6 = .ok (.getfield 30, 3) := by decide +kernel
theorem dKT_needExample_9 : decode bKT_needExample 9 = .ok (.getfield 60, 3) := by decide +kernel
theorem dKT_needExample_12 : decode bKT_needExample 12 = .ok (.if_icmp .lt (13), 3) := by decide +kernel
theorem dKT_needExample_15 : decode bKT_needExample 15 = .ok (.new 186, 3) := by decide +kernel
theorem dKT_needExample_18 : decode bKT_needExample 18 = .ok (.dup, 1) := by decide +kernel
theorem dKT_needExample_19 : decode bKT_needExample 19 = .ok (.ldc 193, 2) := by decide +kernel
theorem dKT_needExample_21 : decode bKT_needExample 21 = .ok (.invokespecial 190, 3) := by decide +kernel
theorem dKT_needExample_24 : decode bKT_needExample 24 = .ok (.athrow, 1) := by decide +kernel
theorem dKT_needExample_25 : decode bKT_needExample 25 = .ok (.return_, 1) := by decide +kernel
theorem dKT_needHaul_0 : decode bKT_needHaul 0 = .ok (.iload_n 1, 1) := by decide +kernel
theorem dKT_needHaul_1 : decode bKT_needHaul 1 = .ok (.ifCond .lt (14), 3) := by decide +kernel
theorem dKT_needHaul_4 : decode bKT_needHaul 4 = .ok (.iload_n 1, 1) := by decide +kernel
theorem dKT_needHaul_5 : decode bKT_needHaul 5 = .ok (.aload_n 0, 1) := by decide +kernel
theorem dKT_needHaul_6 : decode bKT_needHaul 6 = .ok (.getfield 46, 3) := by decide +kernel
theorem dKT_needHaul_9 : decode bKT_needHaul 9 = .ok (.getfield 154, 3) := by decide +kernel
theorem dKT_needHaul_12 : decode bKT_needHaul 12 = .ok (.if_icmp .lt (13), 3) := by decide +kernel
theorem dKT_needHaul_15 : decode bKT_needHaul 15 = .ok (.new 186, 3) := by decide +kernel
theorem dKT_needHaul_18 : decode bKT_needHaul 18 = .ok (.dup, 1) := by decide +kernel
theorem dKT_needHaul_19 : decode bKT_needHaul 19 = .ok (.ldc 195, 2) := by decide +kernel
theorem dKT_needHaul_21 : decode bKT_needHaul 21 = .ok (.invokespecial 190, 3) := by decide +kernel
theorem dKT_needHaul_24 : decode bKT_needHaul 24 = .ok (.athrow, 1) := by decide +kernel
theorem dKT_needHaul_25 : decode bKT_needHaul 25 = .ok (.return_, 1) := by decide +kernel
theorem dKT_needPart_0 : decode bKT_needPart 0 = .ok (.iload_n 0, 1) := by decide +kernel
theorem dKT_needPart_1 : decode bKT_needPart 1 = .ok (.ifCond .eq (18), 3) := by decide +kernel
theorem dKT_needPart_4 : decode bKT_needPart 4 = .ok (.iload_n 0, 1) := by decide +kernel
theorem dKT_needPart_5 : decode bKT_needPart 5 = .ok (.iconst 1, 1) := by decide +kernel
theorem dKT_needPart_6 : decode bKT_needPart 6 = .ok (.if_icmp .eq (13), 3) := by decide +kernel
theorem dKT_needPart_9 : decode bKT_needPart 9 = .ok (.new 186, 3) := by decide +kernel
theorem dKT_needPart_12 : decode bKT_needPart 12 = .ok (.dup, 1) := by decide +kernel
theorem dKT_needPart_13 : decode bKT_needPart 13 = .ok (.ldc 197, 2) := by decide +kernel
theorem dKT_needPart_15 : decode bKT_needPart 15 = .ok (.invokespecial 190, 3) := by decide +kernel
theorem dKT_needPart_18 : decode bKT_needPart 18 = .ok (.athrow, 1) := by decide +kernel
theorem dKT_needPart_19 : decode bKT_needPart 19 = .ok (.return_, 1) := by decide +kernel
theorem dKT_needWithin_0 : decode bKT_needWithin 0 = .ok (.iload_n 0, 1) := by decide +kernel
theorem dKT_needWithin_1 : decode bKT_needWithin 1 = .ok (.iload_n 1, 1) := by decide +kernel
theorem dKT_needWithin_2 : decode bKT_needWithin 2 = .ok (.if_icmp .lt (8), 3) := by decide +kernel
theorem dKT_needWithin_5 : decode bKT_needWithin 5 = .ok (.iload_n 0, 1) := by decide +kernel
theorem dKT_needWithin_6 : decode bKT_needWithin 6 = .ok (.iload_n 2, 1) := by decide +kernel
theorem dKT_needWithin_7 : decode bKT_needWithin 7 = .ok (.if_icmp .le (13), 3) := by decide +kernel
theorem dKT_needWithin_10 : decode bKT_needWithin 10 = .ok (.new 139, 3) := by decide +kernel
theorem dKT_needWithin_13 : decode bKT_needWithin 13 = .ok (.dup, 1) := by decide +kernel
theorem dKT_needWithin_14 : decode bKT_needWithin 14 = .ok (.ldc 199, 2) := by decide +kernel
theorem dKT_needWithin_16 : decode bKT_needWithin 16 = .ok (.invokespecial 143, 3) := by decide +kernel
theorem dKT_needWithin_19 : decode bKT_needWithin 19 = .ok (.athrow, 1) := by decide +kernel
theorem dKT_needWithin_20 : decode bKT_needWithin 20 = .ok (.return_, 1) := by decide +kernel
theorem dKT_needPlace_0 : decode bKT_needPlace 0 = .ok (.iload_n 0, 1) := by decide +kernel
theorem dKT_needPlace_1 : decode bKT_needPlace 1 = .ok (.bipush (-100), 2) := by decide +kernel
theorem dKT_needPlace_3 : decode bKT_needPlace 3 = .ok (.bipush (100), 2) := by decide +kernel
theorem dKT_needPlace_5 : decode bKT_needPlace 5 = .ok (.invokestatic 80, 3) := by decide +kernel
theorem dKT_needPlace_8 : decode bKT_needPlace 8 = .ok (.iload_n 1, 1) := by decide +kernel
theorem dKT_needPlace_9 : decode bKT_needPlace 9 = .ok (.bipush (-100), 2) := by decide +kernel
theorem dKT_needPlace_11 : decode bKT_needPlace 11 = .ok (.bipush (100), 2) := by decide +kernel
theorem dKT_needPlace_13 : decode bKT_needPlace 13 = .ok (.invokestatic 80, 3) := by decide +kernel
theorem dKT_needPlace_16 : decode bKT_needPlace 16 = .ok (.return_, 1) := by decide +kernel
theorem dKT_partOf_0 : decode bKT_partOf 0 = .ok (.lload_n 0, 1) := by decide +kernel
theorem dKT_partOf_1 : decode bKT_partOf 1 = .ok (.lload_n 2, 1) := by decide +kernel
theorem dKT_partOf_2 : decode bKT_partOf 2 = .ok (.invokestatic 201, 3) := by decide +kernel
theorem dKT_partOf_5 : decode bKT_partOf 5 = .ok (.lstore 5, 2) := by decide +kernel
theorem dKT_partOf_7 : decode bKT_partOf 7 = .ok (.lload_n 2, 1) := by decide +kernel
theorem dKT_partOf_8 : decode bKT_partOf 8 = .ok (.lconst 1, 1) := by decide +kernel
theorem dKT_partOf_9 : decode bKT_partOf 9 = .ok (.lcmp, 1) := by decide +kernel
theorem dKT_partOf_10 : decode bKT_partOf 10 = .ok (.ifCond .lt (10), 3) := by decide +kernel
theorem dKT_partOf_13 : decode bKT_partOf 13 = .ok (.lload 5, 2) := by decide +kernel
theorem dKT_partOf_15 : decode bKT_partOf 15 = .ok (.lconst 1, 1) := by decide +kernel
theorem dKT_partOf_16 : decode bKT_partOf 16 = .ok (.lcmp, 1) := by decide +kernel
theorem dKT_partOf_17 : decode bKT_partOf 17 = .ok (.ifCond .ge (14), 3) := by decide +kernel
theorem dKT_partOf_20 : decode bKT_partOf 20 = .ok (.iload 4, 2) := by decide +kernel
theorem dKT_partOf_22 : decode bKT_partOf 22 = .ok (.ifCond .ne (7), 3) := by decide +kernel
theorem dKT_partOf_25 : decode bKT_partOf 25 = .ok (.lconst 0, 1) := by decide +kernel
theorem dKT_partOf_26 : decode bKT_partOf 26 = .ok (.goto (4), 3) := by decide +kernel
theorem dKT_partOf_29 : decode bKT_partOf 29 = .ok (.lconst 1, 1) := by decide +kernel
theorem dKT_partOf_30 : decode bKT_partOf 30 = .ok (.lreturn, 1) := by decide +kernel
theorem dKT_partOf_31 : decode bKT_partOf 31 = .ok (.iload 4, 2) := by decide +kernel
theorem dKT_partOf_33 : decode bKT_partOf 33 = .ok (.ifCond .ne (10), 3) := by decide +kernel
theorem dKT_partOf_36 : decode bKT_partOf 36 = .ok (.lload_n 0, 1) := by decide +kernel
theorem dKT_partOf_37 : decode bKT_partOf 37 = .ok (.lload 5, 2) := by decide +kernel
theorem dKT_partOf_39 : decode bKT_partOf 39 = .ok (.ldiv, 1) := by decide +kernel
theorem dKT_partOf_40 : decode bKT_partOf 40 = .ok (.goto (7), 3) := by decide +kernel
theorem dKT_partOf_43 : decode bKT_partOf 43 = .ok (.lload_n 2, 1) := by decide +kernel
theorem dKT_partOf_44 : decode bKT_partOf 44 = .ok (.lload 5, 2) := by decide +kernel
theorem dKT_partOf_46 : decode bKT_partOf 46 = .ok (.ldiv, 1) := by decide +kernel
theorem dKT_partOf_47 : decode bKT_partOf 47 = .ok (.lreturn, 1) := by decide +kernel
theorem dKT_commonDivisor_0 : decode bKT_commonDivisor 0 = .ok (.lload_n 0, 1) := by decide +kernel
theorem dKT_commonDivisor_1 : decode bKT_commonDivisor 1 = .ok (.lstore 4, 2) := by decide +kernel
theorem dKT_commonDivisor_3 : decode bKT_commonDivisor 3 = .ok (.lload_n 2, 1) := by decide +kernel
theorem dKT_commonDivisor_4 : decode bKT_commonDivisor 4 = .ok (.lstore 6, 2) := by decide +kernel
theorem dKT_commonDivisor_6 : decode bKT_commonDivisor 6 = .ok (.iconst 0, 1) := by decide +kernel
theorem dKT_commonDivisor_7 : decode bKT_commonDivisor 7 = .ok (.istore 8, 2) := by decide +kernel
theorem dKT_commonDivisor_9 : decode bKT_commonDivisor 9 = .ok (.iload 8, 2) := by decide +kernel
theorem dKT_commonDivisor_11 : decode bKT_commonDivisor 11 = .ok (.sipush (1000), 3) := by decide +kernel
theorem dKT_commonDivisor_14 : decode bKT_commonDivisor 14 = .ok (.if_icmp .ge (31), 3) := by decide +kernel
theorem dKT_commonDivisor_17 : decode bKT_commonDivisor 17 = .ok (.lload 6, 2) := by decide +kernel
theorem dKT_commonDivisor_19 : decode bKT_commonDivisor 19 = .ok (.lconst 0, 1) := by decide +kernel
theorem dKT_commonDivisor_20 : decode bKT_commonDivisor 20 = .ok (.lcmp, 1) := by decide +kernel
theorem dKT_commonDivisor_21 : decode bKT_commonDivisor 21 = .ok (.ifCond .eq (24), 3) := by decide +kernel
theorem dKT_commonDivisor_24 : decode bKT_commonDivisor 24 = .ok (.lload 4, 2) := by decide +kernel
theorem dKT_commonDivisor_26 : decode bKT_commonDivisor 26 = .ok (.lload 6, 2) := by decide +kernel
theorem dKT_commonDivisor_28 : decode bKT_commonDivisor 28 = .ok (.lrem, 1) := by decide +kernel
theorem dKT_commonDivisor_29 : decode bKT_commonDivisor 29 = .ok (.lstore 9, 2) := by decide +kernel
theorem dKT_commonDivisor_31 : decode bKT_commonDivisor 31 = .ok (.lload 6, 2) := by decide +kernel
theorem dKT_commonDivisor_33 : decode bKT_commonDivisor 33 = .ok (.lstore 4, 2) := by decide +kernel
theorem dKT_commonDivisor_35 : decode bKT_commonDivisor 35 = .ok (.lload 9, 2) := by decide +kernel
theorem dKT_commonDivisor_37 : decode bKT_commonDivisor 37 = .ok (.lstore 6, 2) := by decide +kernel
theorem dKT_commonDivisor_39 : decode bKT_commonDivisor 39 = .ok (.iinc 8 (1), 3) := by decide +kernel
theorem dKT_commonDivisor_42 : decode bKT_commonDivisor 42 = .ok (.goto (-33), 3) := by decide +kernel
theorem dKT_commonDivisor_45 : decode bKT_commonDivisor 45 = .ok (.lload 4, 2) := by decide +kernel
theorem dKT_commonDivisor_47 : decode bKT_commonDivisor 47 = .ok (.lreturn, 1) := by decide +kernel
theorem dKT_square_0 : decode bKT_square 0 = .ok (.iload_n 0, 1) := by decide +kernel
theorem dKT_square_1 : decode bKT_square 1 = .ok (.iload_n 0, 1) := by decide +kernel
theorem dKT_square_2 : decode bKT_square 2 = .ok (.imul, 1) := by decide +kernel
theorem dKT_square_3 : decode bKT_square 3 = .ok (.ireturn, 1) := by decide +kernel
end
section
theorem ks_0 {sa : Nat → Nat} {s : State} (h : ∀ q ∈ kS sa, vk_R q.1 q.2.1 q.2.2.1 q.2.2.2 s) : vk_R "KindTables" 188 "no such kind" (sa 0) s := h ("KindTables", 188, "no such kind", sa 0) (List.mem_of_getElem? (i := 0) rfl)
theorem ks_1 {sa : Nat → Nat} {s : State} (h : ∀ q ∈ kS sa, vk_R q.1 q.2.1 q.2.2.1 q.2.2.2 s) : vk_R "KindTables" 65 "no room for another example" (sa 1) s := h ("KindTables", 65, "no room for another example", sa 1) (List.mem_of_getElem? (i := 1) rfl)
theorem ks_2 {sa : Nat → Nat} {s : State} (h : ∀ q ∈ kS sa, vk_R q.1 q.2.1 q.2.2.1 q.2.2.2 s) : vk_R "KindTables" 193 "no such example" (sa 2) s := h ("KindTables", 193, "no such example", sa 2) (List.mem_of_getElem? (i := 2) rfl)
theorem ks_3 {sa : Nat → Nat} {s : State} (h : ∀ q ∈ kS sa, vk_R q.1 q.2.1 q.2.2.1 q.2.2.2 s) : vk_R "KindTables" 191 "no such feature" (sa 3) s := h ("KindTables", 191, "no such feature", sa 3) (List.mem_of_getElem? (i := 3) rfl)
theorem ks_4 {sa : Nat → Nat} {s : State} (h : ∀ q ∈ kS sa, vk_R q.1 q.2.1 q.2.2.1 q.2.2.2 s) : vk_R "KindTables" 199 "a number outside its bounds" (sa 4) s := h ("KindTables", 199, "a number outside its bounds", sa 4) (List.mem_of_getElem? (i := 4) rfl)
theorem ks_5 {sa : Nat → Nat} {s : State} (h : ∀ q ∈ kS sa, vk_R q.1 q.2.1 q.2.2.1 q.2.2.2 s) : vk_R "KindTables" 197 "no such part" (sa 5) s := h ("KindTables", 197, "no such part", sa 5) (List.mem_of_getElem? (i := 5) rfl)
theorem ks_6 {sa : Nat → Nat} {s : State} (h : ∀ q ∈ kS sa, vk_R q.1 q.2.1 q.2.2.1 q.2.2.2 s) : vk_R "KindTables" 141 "a place below 0" (sa 6) s := h ("KindTables", 141, "a place below 0", sa 6) (List.mem_of_getElem? (i := 6) rfl)
theorem ks_7 {sa : Nat → Nat} {s : State} (h : ∀ q ∈ kS sa, vk_R q.1 q.2.1 q.2.2.1 q.2.2.2 s) : vk_R "KindTables" 155 "no room for another haul" (sa 7) s := h ("KindTables", 155, "no room for another haul", sa 7) (List.mem_of_getElem? (i := 7) rfl)
theorem ks_8 {sa : Nat → Nat} {s : State} (h : ∀ q ∈ kS sa, vk_R q.1 q.2.1 q.2.2.1 q.2.2.2 s) : vk_R "KindTables" 195 "no such haul" (sa 8) s := h ("KindTables", 195, "no such haul", sa 8) (List.mem_of_getElem? (i := 8) rfl)
theorem ks_9 {sa : Nat → Nat} {s : State} (h : ∀ q ∈ kS sa, vk_R q.1 q.2.1 q.2.2.1 q.2.2.2 s) : vk_R "KindTables" 172 "a length not above the last row's" (sa 9) s := h ("KindTables", 172, "a length not above the last row's", sa 9) (List.mem_of_getElem? (i := 9) rfl)
theorem ks_10 {sa : Nat → Nat} {s : State} (h : ∀ q ∈ kS sa, vk_R q.1 q.2.1 q.2.2.1 q.2.2.2 s) : vk_R "KindTables" 177 "no room for another row" (sa 10) s := h ("KindTables", 177, "no room for another row", sa 10) (List.mem_of_getElem? (i := 10) rfl)
theorem tfn : ∀ n ∈ ["java/lang/RuntimeException", "java/lang/Exception"], Bundle.fit n = true := by decide +kernel
theorem tq_63_67 : ∀ w ∈ vx_atS "KindTables" 67 "java/lang/IllegalStateException" ["java/lang/RuntimeException", "java/lang/Exception"], w ∈ tw ∨ w ∈ jnw := by decide +kernel
theorem tf_63 : Bundle.fit "java/lang/IllegalStateException" = true := by decide +kernel
theorem tx_63_67 : ∀ w ∈ Cond.classLink "KindTables" 63 "java/lang/IllegalStateException" :: Cond.initialized "java/lang/IllegalStateException" :: vx_atS "KindTables" 67 "java/lang/IllegalStateException" ["java/lang/RuntimeException", "java/lang/Exception"], vx_ot w = true := by decide +kernel
theorem th_63_67 {p : Program} {s : State} {m : MethodId} {args : Array Value} {c : Code} {cc : ByteArray} {nL : Nat} {own : String} {w0 : Cond} {D : va_G} {cl : List vw_C} {tys : List (ClassId × FieldType)} {A : Nat → Prop} (C : jr_C p s m args c cc nL own (w0 :: tw) D cl tys A) : ∀ w ∈ vx_atS "KindTables" 67 "java/lang/IllegalStateException" ["java/lang/RuntimeException", "java/lang/Exception"], w.before args s = true := jr_hat tq_63_67 C
theorem tq_139_143 : ∀ w ∈ vx_atS "KindTables" 143 "java/lang/IllegalArgumentException" ["java/lang/RuntimeException", "java/lang/Exception"], w ∈ tw ∨ w ∈ jnw := by decide +kernel
theorem tf_139 : Bundle.fit "java/lang/IllegalArgumentException" = true := by decide +kernel
theorem tx_139_143 : ∀ w ∈ Cond.classLink "KindTables" 139 "java/lang/IllegalArgumentException" :: Cond.initialized "java/lang/IllegalArgumentException" :: vx_atS "KindTables" 143 "java/lang/IllegalArgumentException" ["java/lang/RuntimeException", "java/lang/Exception"], vx_ot w = true := by decide +kernel
theorem th_139_143 {p : Program} {s : State} {m : MethodId} {args : Array Value} {c : Code} {cc : ByteArray} {nL : Nat} {own : String} {w0 : Cond} {D : va_G} {cl : List vw_C} {tys : List (ClassId × FieldType)} {A : Nat → Prop} (C : jr_C p s m args c cc nL own (w0 :: tw) D cl tys A) : ∀ w ∈ vx_atS "KindTables" 143 "java/lang/IllegalArgumentException" ["java/lang/RuntimeException", "java/lang/Exception"], w.before args s = true := jr_hat tq_139_143 C
theorem tq_186_190 : ∀ w ∈ vx_atS "KindTables" 190 "java/lang/IndexOutOfBoundsException" ["java/lang/RuntimeException", "java/lang/Exception"], w ∈ tw ∨ w ∈ jnw := by decide +kernel
theorem tf_186 : Bundle.fit "java/lang/IndexOutOfBoundsException" = true := by decide +kernel
theorem tx_186_190 : ∀ w ∈ Cond.classLink "KindTables" 186 "java/lang/IndexOutOfBoundsException" :: Cond.initialized "java/lang/IndexOutOfBoundsException" :: vx_atS "KindTables" 190 "java/lang/IndexOutOfBoundsException" ["java/lang/RuntimeException", "java/lang/Exception"], vx_ot w = true := by decide +kernel
theorem th_186_190 {p : Program} {s : State} {m : MethodId} {args : Array Value} {c : Code} {cc : ByteArray} {nL : Nat} {own : String} {w0 : Cond} {D : va_G} {cl : List vw_C} {tys : List (ClassId × FieldType)} {A : Nat → Prop} (C : jr_C p s m args c cc nL own (w0 :: tw) D cl tys A) : ∀ w ∈ vx_atS "KindTables" 190 "java/lang/IndexOutOfBoundsException" ["java/lang/RuntimeException", "java/lang/Exception"], w.before args s = true := jr_hat tq_186_190 C
end
section
/-- the cells of the class's objects, by their places: 0 KindTables, 1 Examples, 2 Teller, 3 Hauls, 4 the array of laws, 5 numbers, 6 taught, 7 widths, 8 groupOf, 9 order, 10 tally, 11 rights, 12 xs, 13 ys, 14 catches; from 15 the rows of numbers, from 39 those of catches, from 51 on a Law, its lengths, its strengths for each kind -/
def kG (cI cII cL : ClassId) (ad : Nat → Nat) (K F : Nat) (k : Nat) (g : Nat → Int32) : va_E := match k with
  | 0 => .inr (0, [.int (g 0), .int (g 1), .ref (ad 1), .ref (ad 2), .ref (ad 3), .ref (ad 4)])
  | 1 => .inr (1, [.int (g 0), .ref (ad 5), .ref (ad 6), .ref (ad 7), .ref (ad 8), .int (g 5)])
  | 2 => .inr (2, [.ref (ad 1), .int (g 1), .ref (ad 9), .ref (ad 10), .ref (ad 11), .int (g 5)])
  | 3 => .inr (3, [.int (g 0), .ref (ad 12), .ref (ad 13), .ref (ad 14), .int (g 4)])
  | 4 => .inl (cL, K, .inr (.inr (.inr (.inr (fun i => if i < K then some (ad (51 + 3 * i)) else none)))))
  | 5 => .inl (cII, 24, .inr (.inr (.inr (.inr (fun i => if i < 24 then some (ad (15 + i)) else none)))))
  | 6 => .inl (cI, 24, .inl g)
  | 7 => .inl (cI, F, .inl g)
  | 8 => .inl (cI, 24, .inl g)
  | 9 => .inl (cI, K, .inl g)
  | 10 => .inl (cI, K, .inl g)
  | 11 => .inl (cI, F, .inl g)
  | 12 => .inl (cI, 12, .inl g)
  | 13 => .inl (cI, 12, .inl g)
  | 14 => .inl (cII, 12, .inr (.inr (.inr (.inr (fun i => if i < 12 then some (ad (39 + i)) else none)))))
  | n + 15 => if n < 24 then .inl (cI, F, .inl g) else if n < 36 then .inl (cI, K, .inl g) else if (n - 36) % 3 = 0 then .inr (4, [.ref (ad (n + 16)), .ref (ad (n + 17)), .int (g 2)]) else .inl (cI, 6, .inl g)
def kW (cI cII cL : ClassId) (ad : Nat → Nat) (K F : Nat) (fr : va_W) (st : jS) : va_W := jw (51 + 3 * K) ad (kG cI cII cL ad K F) st fr
def kT (cI cII cL cJ : ClassId) : List (ClassId × FieldType) := [(cI, .int), (cII, .array .int), (cL, .object "KindTables$Law"), (cJ, .long)]
section KW
variable {cI cII cL : ClassId} {ad : Nat → Nat} {K F : Nat} {fr : va_W} {st : jS} {j : Nat} {x i : Int32} {k : Nat}
theorem kA_0 : (kW cI cII cL ad K F fr st)[0]? = some (ad 0, .inr (0, [.int (st 0 0), .int (st 0 1), .ref (ad 1), .ref (ad 2), .ref (ad 3), .ref (ad 4)])) := jw_at (by omega) rfl
theorem kA_1 : (kW cI cII cL ad K F fr st)[1]? = some (ad 1, .inr (1, [.int (st 1 0), .ref (ad 5), .ref (ad 6), .ref (ad 7), .ref (ad 8), .int (st 1 5)])) := jw_at (by omega) rfl
theorem kA_2 : (kW cI cII cL ad K F fr st)[2]? = some (ad 2, .inr (2, [.ref (ad 1), .int (st 2 1), .ref (ad 9), .ref (ad 10), .ref (ad 11), .int (st 2 5)])) := jw_at (by omega) rfl
theorem kA_3 : (kW cI cII cL ad K F fr st)[3]? = some (ad 3, .inr (3, [.int (st 3 0), .ref (ad 12), .ref (ad 13), .ref (ad 14), .int (st 3 4)])) := jw_at (by omega) rfl
theorem kA_4 : (kW cI cII cL ad K F fr st)[4]? = some (ad 4, .inl (cL, K, .inr (.inr (.inr (.inr (fun i => if i < K then some (ad (51 + 3 * i)) else none)))))) := jw_at (by omega) rfl
theorem kA_5 : (kW cI cII cL ad K F fr st)[5]? = some (ad 5, .inl (cII, 24, .inr (.inr (.inr (.inr (fun i => if i < 24 then some (ad (15 + i)) else none)))))) := jw_at (by omega) rfl
theorem kA_6 : (kW cI cII cL ad K F fr st)[6]? = some (ad 6, .inl (cI, 24, .inl (st 6))) := jw_at (by omega) rfl
theorem kA_7 : (kW cI cII cL ad K F fr st)[7]? = some (ad 7, .inl (cI, F, .inl (st 7))) := jw_at (by omega) rfl
theorem kA_8 : (kW cI cII cL ad K F fr st)[8]? = some (ad 8, .inl (cI, 24, .inl (st 8))) := jw_at (by omega) rfl
theorem kA_9 : (kW cI cII cL ad K F fr st)[9]? = some (ad 9, .inl (cI, K, .inl (st 9))) := jw_at (by omega) rfl
theorem kA_10 : (kW cI cII cL ad K F fr st)[10]? = some (ad 10, .inl (cI, K, .inl (st 10))) := jw_at (by omega) rfl
theorem kA_11 : (kW cI cII cL ad K F fr st)[11]? = some (ad 11, .inl (cI, F, .inl (st 11))) := jw_at (by omega) rfl
theorem kA_12 : (kW cI cII cL ad K F fr st)[12]? = some (ad 12, .inl (cI, 12, .inl (st 12))) := jw_at (by omega) rfl
theorem kA_13 : (kW cI cII cL ad K F fr st)[13]? = some (ad 13, .inl (cI, 12, .inl (st 13))) := jw_at (by omega) rfl
theorem kA_14 : (kW cI cII cL ad K F fr st)[14]? = some (ad 14, .inl (cII, 12, .inr (.inr (.inr (.inr (fun i => if i < 12 then some (ad (39 + i)) else none)))))) := jw_at (by omega) rfl
theorem kG_num {g : Nat → Int32} {n : Nat} (h : n < 24) : kG cI cII cL ad K F (15 + n) g = .inl (cI, F, .inl g) := by
  rw [Nat.add_comm 15 n]
  show (if n < 24 then _ else _) = _
  rw [if_pos h]
theorem kG_cat {g : Nat → Int32} {n : Nat} (h : n < 12) : kG cI cII cL ad K F (39 + n) g = .inl (cI, K, .inl g) := by
  rw [show 39 + n = (24 + n) + 15 by omega]
  show (if 24 + n < 24 then _ else if 24 + n < 36 then _ else _) = _
  rw [if_neg (by omega), if_pos (by omega)]
theorem kG_law {g : Nat → Int32} : kG cI cII cL ad K F (51 + 3 * k) g = .inr (4, [.ref (ad (52 + 3 * k)), .ref (ad (53 + 3 * k)), .int (g 2)]) := by
  rw [show 51 + 3 * k = (36 + 3 * k) + 15 by omega]
  show (if 36 + 3 * k < 24 then _ else if 36 + 3 * k < 36 then _ else if (36 + 3 * k - 36) % 3 = 0 then _ else _) = _
  rw [if_neg (by omega), if_neg (by omega), if_pos (by omega), show 36 + 3 * k + 16 = 52 + 3 * k by omega, show 36 + 3 * k + 17 = 53 + 3 * k by omega]
theorem kG_len {g : Nat → Int32} : kG cI cII cL ad K F (52 + 3 * k) g = .inl (cI, 6, .inl g) := by
  rw [show 52 + 3 * k = (37 + 3 * k) + 15 by omega]
  show (if 37 + 3 * k < 24 then _ else if 37 + 3 * k < 36 then _ else if (37 + 3 * k - 36) % 3 = 0 then _ else _) = _
  rw [if_neg (by omega), if_neg (by omega), if_neg (by omega)]
theorem kG_str {g : Nat → Int32} : kG cI cII cL ad K F (53 + 3 * k) g = .inl (cI, 6, .inl g) := by
  rw [show 53 + 3 * k = (38 + 3 * k) + 15 by omega]
  show (if 38 + 3 * k < 24 then _ else if 38 + 3 * k < 36 then _ else if (38 + 3 * k - 36) % 3 = 0 then _ else _) = _
  rw [if_neg (by omega), if_neg (by omega), if_neg (by omega)]
theorem kA_rownum (h : vp_in i 24) : (kW cI cII cL ad K F fr st)[15 + (Int32.toNatClampNeg i)]? = some (ad (15 + (Int32.toNatClampNeg i)), .inl (cI, F, .inl (st (15 + (Int32.toNatClampNeg i))))) := jw_at (by have := vi_lt h; omega) (kG_num (vi_lt h))
theorem kA_rowcat (h : vp_in i 12) : (kW cI cII cL ad K F fr st)[39 + (Int32.toNatClampNeg i)]? = some (ad (39 + (Int32.toNatClampNeg i)), .inl (cI, K, .inl (st (39 + (Int32.toNatClampNeg i))))) := jw_at (by have := vi_lt h; omega) (kG_cat (vi_lt h))
theorem kA_law (h : k < K) : (kW cI cII cL ad K F fr st)[51 + 3 * k]? = some (ad (51 + 3 * k), .inr (4, [.ref (ad (52 + 3 * k)), .ref (ad (53 + 3 * k)), .int (st (51 + 3 * k) 2)])) := jw_at (by omega) kG_law
theorem kA_len (h : k < K) : (kW cI cII cL ad K F fr st)[52 + 3 * k]? = some (ad (52 + 3 * k), .inl (cI, 6, .inl (st (52 + 3 * k)))) := jw_at (by omega) kG_len
theorem kA_str (h : k < K) : (kW cI cII cL ad K F fr st)[53 + 3 * k]? = some (ad (53 + 3 * k), .inl (cI, 6, .inl (st (53 + 3 * k)))) := jw_at (by omega) kG_str
theorem kE_num (h : vp_in i 24) : (fun i : Nat => if i < 24 then some (ad (15 + i)) else none) (Int32.toNatClampNeg i) = some (ad (15 + (Int32.toNatClampNeg i))) := if_pos (vi_lt h)
theorem kE_cat (h : vp_in i 12) : (fun i : Nat => if i < 12 then some (ad (39 + i)) else none) (Int32.toNatClampNeg i) = some (ad (39 + (Int32.toNatClampNeg i))) := if_pos (vi_lt h)
theorem kE_law (h : vp_in i K) : (fun i : Nat => if i < K then some (ad (51 + 3 * i)) else none) (Int32.toNatClampNeg i) = some (ad (51 + 3 * (Int32.toNatClampNeg i))) := if_pos (vi_lt h)
theorem kP_1 {x : Int32} : (kW cI cII cL ad K F fr st).set 1 (ad 1, .inr (1, [.int (st 1 0), .ref (ad 5), .ref (ad 6), .ref (ad 7), .ref (ad 8), .int x])) = kW cI cII cL ad K F fr (jq st 1 5 x) := jw_put (by omega) rfl
theorem kP_2 {x : Int32} : (kW cI cII cL ad K F fr st).set 2 (ad 2, .inr (2, [.ref (ad 1), .int (st 2 1), .ref (ad 9), .ref (ad 10), .ref (ad 11), .int x])) = kW cI cII cL ad K F fr (jq st 2 5 x) := jw_put (by omega) rfl
theorem kP_3 {x : Int32} : (kW cI cII cL ad K F fr st).set 3 (ad 3, .inr (3, [.int (st 3 0), .ref (ad 12), .ref (ad 13), .ref (ad 14), .int x])) = kW cI cII cL ad K F fr (jq st 3 4 x) := jw_put (by omega) rfl
theorem kP_6 : (kW cI cII cL ad K F fr st).set 6 (ad 6, .inl (cI, 24, .inl (upd (st 6) j x))) = kW cI cII cL ad K F fr (jq st 6 j x) := jw_put (by omega) rfl
theorem kP_7 : (kW cI cII cL ad K F fr st).set 7 (ad 7, .inl (cI, F, .inl (upd (st 7) j x))) = kW cI cII cL ad K F fr (jq st 7 j x) := jw_put (by omega) rfl
theorem kP_8 : (kW cI cII cL ad K F fr st).set 8 (ad 8, .inl (cI, 24, .inl (upd (st 8) j x))) = kW cI cII cL ad K F fr (jq st 8 j x) := jw_put (by omega) rfl
theorem kP_9 : (kW cI cII cL ad K F fr st).set 9 (ad 9, .inl (cI, K, .inl (upd (st 9) j x))) = kW cI cII cL ad K F fr (jq st 9 j x) := jw_put (by omega) rfl
theorem kP_10 : (kW cI cII cL ad K F fr st).set 10 (ad 10, .inl (cI, K, .inl (upd (st 10) j x))) = kW cI cII cL ad K F fr (jq st 10 j x) := jw_put (by omega) rfl
theorem kP_11 : (kW cI cII cL ad K F fr st).set 11 (ad 11, .inl (cI, F, .inl (upd (st 11) j x))) = kW cI cII cL ad K F fr (jq st 11 j x) := jw_put (by omega) rfl
theorem kP_12 : (kW cI cII cL ad K F fr st).set 12 (ad 12, .inl (cI, 12, .inl (upd (st 12) j x))) = kW cI cII cL ad K F fr (jq st 12 j x) := jw_put (by omega) rfl
theorem kP_13 : (kW cI cII cL ad K F fr st).set 13 (ad 13, .inl (cI, 12, .inl (upd (st 13) j x))) = kW cI cII cL ad K F fr (jq st 13 j x) := jw_put (by omega) rfl
theorem kP_rownum (h : vp_in i 24) : (kW cI cII cL ad K F fr st).set (15 + (Int32.toNatClampNeg i)) (ad (15 + (Int32.toNatClampNeg i)), .inl (cI, F, .inl (upd (st (15 + (Int32.toNatClampNeg i))) j x))) = kW cI cII cL ad K F fr (jq st (15 + (Int32.toNatClampNeg i)) j x) := jw_put (by have := vi_lt h; omega) (kG_num (vi_lt h))
theorem kP_rowcat (h : vp_in i 12) : (kW cI cII cL ad K F fr st).set (39 + (Int32.toNatClampNeg i)) (ad (39 + (Int32.toNatClampNeg i)), .inl (cI, K, .inl (upd (st (39 + (Int32.toNatClampNeg i))) j x))) = kW cI cII cL ad K F fr (jq st (39 + (Int32.toNatClampNeg i)) j x) := jw_put (by have := vi_lt h; omega) (kG_cat (vi_lt h))
theorem kP_law {x : Int32} (h : k < K) : (kW cI cII cL ad K F fr st).set (51 + 3 * k) (ad (51 + 3 * k), .inr (4, [.ref (ad (52 + 3 * k)), .ref (ad (53 + 3 * k)), .int x])) = kW cI cII cL ad K F fr (jq st (51 + 3 * k) 2 x) := jw_put (by omega) kG_law
theorem kP_len (h : k < K) : (kW cI cII cL ad K F fr st).set (52 + 3 * k) (ad (52 + 3 * k), .inl (cI, 6, .inl (upd (st (52 + 3 * k)) j x))) = kW cI cII cL ad K F fr (jq st (52 + 3 * k) j x) := jw_put (by omega) kG_len
theorem kP_str (h : k < K) : (kW cI cII cL ad K F fr st).set (53 + 3 * k) (ad (53 + 3 * k), .inl (cI, 6, .inl (upd (st (53 + 3 * k)) j x))) = kW cI cII cL ad K F fr (jq st (53 + 3 * k) j x) := jw_put (by omega) kG_str
end KW
end
section
section KT
variable {l : Launch} {D : va_G} {cI cII cL cJ : ClassId} {ad sa : Nat → Nat} {K F : Nat} {fr : va_W}
def wp_Ex_add (K F : Nat) (st : jS) (l1 : Int32) (post : Int32 → jS → Prop) : Prop :=
  vp_in (st 1 5) 24 ∧ post (((jq (jq st 6 (Int32.toNatClampNeg (st 1 5)) l1) 1 5 (((jq st 6 (Int32.toNatClampNeg (st 1 5)) l1) 1 5) + (1 : Int32))) 1 5) - (1 : Int32)) (jq (jq st 6 (Int32.toNatClampNeg (st 1 5)) l1) 1 5 (((jq st 6 (Int32.toNatClampNeg (st 1 5)) l1) 1 5) + (1 : Int32)))
set_option maxRecDepth 100000 in
set_option maxHeartbeats 4000000 in
theorem c_Ex_add {st : jS} {l1 : Int32} {post : Int32 → jS → Prop} (h : wp_Ex_add K F st l1 post) : jr_Mi l yEx_add wEx_add ({ frames := 0, cells := 0, slots := 0, locals := 0 }) [.ref (ad 1), .int l1] D kC (kT cI cII cL cJ) (kW cI cII cL ad K F fr st) (kW cI cII cL ad K F fr) post := by
  refine jr_ofi (cc := bEx_add) (nL := 2) (lv := [(0, .ref (ad 1)), (1, .int l1)]) (by decide) rfl (Nat.le_of_ble_eq_true rfl) rfl (fun p e s m args below meth c A C hr hlocks => ?_)
  unfold wp_Ex_add at h
  refine jr_aload_n (q := 0) C dEx_add_0 rfl rfl ?_
  refine jr_getf (k := 2) C dEx_add_1 inw_Ex (rfl : kC[1]? = _) (by decide) (List.mem_cons_of_mem _ tm1_40) rfl kA_1 rfl ?_
  refine jr_aload_n (q := 0) C dEx_add_4 rfl rfl ?_
  refine jr_getf (k := 5) C dEx_add_5 inw_Ex (rfl : kC[1]? = _) (by decide) (List.mem_cons_of_mem _ tm1_46) rfl kA_1 rfl ?_
  refine jr_iload_n (q := 1) C dEx_add_8 rfl rfl ?_
  obtain ⟨h1, h⟩ := h
  refine jr_iast (t0 := 0) C dEx_add_9 kA_6 rfl h1 ?_
  refine jr_ws (ws' := kW cI cII cL ad K F fr (jq st 6 (Int32.toNatClampNeg (st 1 5)) l1)) (kP_6) ?_
  refine jr_aload_n (q := 0) C dEx_add_10 rfl rfl ?_
  refine jr_dup C dEx_add_11 rfl ?_
  refine jr_getf (k := 5) C dEx_add_12 inw_Ex (rfl : kC[1]? = _) (by decide) (List.mem_cons_of_mem _ tm1_46) rfl kA_1 rfl ?_
  refine jr_iconst (v := 1) C dEx_add_15 (by decide) ?_
  refine jr_iadd C dEx_add_16 ?_
  refine jr_putf (k := 5) C dEx_add_17 inw_Ex ty_Ex ty_Ex_ok nm_Ex (rfl : kC[1]? = _) (by decide) (List.mem_cons_of_mem _ tm1_46) rfl rfl (ty := .int) rfl rfl rfl kA_1 (Nat.le_of_ble_eq_true rfl) ?_
  refine jr_ws (ws' := kW cI cII cL ad K F fr (jq (jq st 6 (Int32.toNatClampNeg (st 1 5)) l1) 1 5 (((jq st 6 (Int32.toNatClampNeg (st 1 5)) l1) 1 5) + (1 : Int32)))) (kP_1) ?_
  refine jr_aload_n (q := 0) C dEx_add_20 rfl rfl ?_
  refine jr_getf (k := 5) C dEx_add_21 inw_Ex (rfl : kC[1]? = _) (by decide) (List.mem_cons_of_mem _ tm1_46) rfl kA_1 rfl ?_
  refine jr_iconst (v := 1) C dEx_add_24 (by decide) ?_
  refine jr_isub C dEx_add_25 ?_
  exact jr_reti C hr hlocks dEx_add_26 h rfl
def wp_Ex_cellOf (K F : Nat) (st : jS) (l1 : Int32) (l2 : Int32) (post : Int32 → jS → Prop) : Prop :=
  vp_in l1 24 ∧ vp_in l2 F ∧ vp_in l2 F ∧ (¬ (st 7 (Int32.toNatClampNeg l2)) = 0) ∧ post ((st (15 + (Int32.toNatClampNeg l1)) (Int32.toNatClampNeg l2)) / (st 7 (Int32.toNatClampNeg l2))) st
set_option maxRecDepth 100000 in
set_option maxHeartbeats 4000000 in
theorem c_Ex_cellOf {st : jS} {l1 : Int32} {l2 : Int32} {post : Int32 → jS → Prop} (h : wp_Ex_cellOf K F st l1 l2 post) : jr_Mi l yEx_cellOf wEx_cellOf ({ frames := 0, cells := 0, slots := 0, locals := 0 }) [.ref (ad 1), .int l1, .int l2] D kC (kT cI cII cL cJ) (kW cI cII cL ad K F fr st) (kW cI cII cL ad K F fr) post := by
  refine jr_ofi (cc := bEx_cellOf) (nL := 3) (lv := [(0, .ref (ad 1)), (1, .int l1), (2, .int l2)]) (by decide) rfl (Nat.le_of_ble_eq_true rfl) rfl (fun p e s m args below meth c A C hr hlocks => ?_)
  unfold wp_Ex_cellOf at h
  refine jr_aload_n (q := 0) C dEx_cellOf_0 rfl rfl ?_
  refine jr_getf (k := 1) C dEx_cellOf_1 inw_Ex (rfl : kC[1]? = _) (by decide) (List.mem_cons_of_mem _ tm1_38) rfl kA_1 rfl ?_
  refine jr_iload_n (q := 1) C dEx_cellOf_4 rfl rfl ?_
  obtain ⟨h1, h⟩ := h
  refine jr_alda (t0 := 1) C dEx_cellOf_5 kA_5 rfl h1 (kE_num h1) ?_
  refine jr_iload_n (q := 2) C dEx_cellOf_6 rfl rfl ?_
  obtain ⟨h2, h⟩ := h
  refine jr_iald (t0 := 0) C dEx_cellOf_7 (kA_rownum h1) rfl h2 ?_
  refine jr_aload_n (q := 0) C dEx_cellOf_8 rfl rfl ?_
  refine jr_getf (k := 3) C dEx_cellOf_9 inw_Ex (rfl : kC[1]? = _) (by decide) (List.mem_cons_of_mem _ tm1_43) rfl kA_1 rfl ?_
  refine jr_iload_n (q := 2) C dEx_cellOf_12 rfl rfl ?_
  obtain ⟨h3, h⟩ := h
  refine jr_iald (t0 := 0) C dEx_cellOf_13 kA_7 rfl h3 ?_
  obtain ⟨h4, h⟩ := h
  refine jr_idiv C dEx_cellOf_14 h4 ?_
  exact jr_reti C hr hlocks dEx_cellOf_15 h rfl
def wp_Ex_sameCells_6 (K F : Nat) (post : Int32 → jS → Prop) : Nat → jS → Int32 → Int32 → Int32 → Int32 → Int32 → Int32 → Prop
  | 0 => fun _ _ _ _ _ _ _ => False
  | n + 1 => fun st x1 x2 x3 x4 x5 x6 => ((x4 ≤ x6 → post x5 st) ∧ (¬ x4 ≤ x6 → wp_Ex_cellOf K F st x1 x6 (fun r2 st1 => wp_Ex_cellOf K F st1 x2 x6 (fun r4 st3 => ((¬ r2 = r4 → wp_Ex_sameCells_6 K F post n st3 x1 x2 x3 x4 x5 (x6 + (1 : Int32))) ∧ (r2 = r4 → wp_Ex_sameCells_6 K F post n st3 x1 x2 x3 x4 (x5 + (1 : Int32)) (x6 + (1 : Int32))))))))
def wp_Ex_sameCells (K F : Nat) (st : jS) (l1 : Int32) (l2 : Int32) (l3 : Int32) (l4 : Int32) (post : Int32 → jS → Prop) : Prop :=
  (∃ n7, wp_Ex_sameCells_6 K F post n7 st l1 l2 l3 l4 (0 : Int32) l3)
set_option maxRecDepth 100000 in
set_option maxHeartbeats 4000000 in
theorem c_Ex_sameCells {st : jS} {l1 : Int32} {l2 : Int32} {l3 : Int32} {l4 : Int32} {post : Int32 → jS → Prop} (h : wp_Ex_sameCells K F st l1 l2 l3 l4 post) : jr_Mi l yEx_sameCells wEx_sameCells ({ frames := 1, cells := 0, slots := 0, locals := 22 }) [.ref (ad 1), .int l1, .int l2, .int l3, .int l4] D kC (kT cI cII cL cJ) (kW cI cII cL ad K F fr st) (kW cI cII cL ad K F fr) post := by
  refine jr_ofi (cc := bEx_sameCells) (nL := 7) (lv := [(0, .ref (ad 1)), (1, .int l1), (2, .int l2), (3, .int l3), (4, .int l4)]) (by decide) rfl (Nat.le_of_ble_eq_true rfl) rfl (fun p e s m args below meth c A C hr hlocks => ?_)
  unfold wp_Ex_sameCells at h
  refine jr_iconst (v := 0) C dEx_sameCells_0 (by decide) ?_
  refine jr_istore (lv' := [(5, .int (0 : Int32)), (0, .ref (ad 1)), (1, .int l1), (2, .int l2), (3, .int l3), (4, .int l4)]) C dEx_sameCells_1 (by decide) rfl ?_
  refine jr_iload_n (q := 4) C dEx_sameCells_3 rfl rfl ?_
  refine jr_istore (lv' := [(6, .int l3), (5, .int (0 : Int32)), (0, .ref (ad 1)), (1, .int l1), (2, .int l2), (3, .int l3), (4, .int l4)]) C dEx_sameCells_4 (by decide) rfl ?_
  have lp5 : ∀ (n : Nat) (st : jS) (x1 : Int32) (x2 : Int32) (x3 : Int32) (x4 : Int32) (x5 : Int32) (x6 : Int32), wp_Ex_sameCells_6 K F post n st x1 x2 x3 x4 x5 x6 → jr_J p l e (headSpec wEx_sameCells ({ frames := 1, cells := 0, slots := 0, locals := 22 })).room s m args below meth c A D kC 7 0 0 (MQ below (va_Qi post (jr_B D kC (kT cI cII cL cJ) (kW cI cII cL ad K F fr) A) A) args s 0 0 A) (kW cI cII cL ad K F fr st) 6 [(0, .ref (ad 1)), (1, .int x1), (2, .int x2), (3, .int x3), (4, .int x4), (5, .int x5), (6, .int x6)] [] := by
    intro n
    induction n with
    | zero => intro st x1 x2 x3 x4 x5 x6 h; exact h.elim
    | succ n ih =>
      intro st x1 x2 x3 x4 x5 x6 h
      unfold wp_Ex_sameCells_6 at h
      refine jr_iload (q := 6) C dEx_sameCells_6 rfl ?_
      refine jr_iload (q := 4) C dEx_sameCells_8 rfl ?_
      refine jr_icmp_ge (tgt := 39) C dEx_sameCells_10 (by decide) (fun z => ?_) (fun z => ?_)
      · have h := h.1 z
        refine jr_iload (q := 5) C dEx_sameCells_39 rfl ?_
        exact jr_reti C hr hlocks dEx_sameCells_41 h rfl
      · have h := h.2 z
        refine jr_aload_n (q := 0) C dEx_sameCells_13 rfl rfl ?_
        refine jr_iload_n (q := 1) C dEx_sameCells_14 rfl rfl ?_
        refine jr_iload (q := 6) C dEx_sameCells_15 rfl ?_
        refine jr_callVi (As := [.int x1, .int x6]) (rest := []) C (c_Ex_cellOf h) (cwV 2 C.2.2.2.2.1 (tg_V tm1_175 tm1_176 tm1_177 tm1_3 tm1_178) rfl rfl rfl ⟨rfl, by decide, by decide, by decide⟩ ⟨Nat.le_of_ble_eq_true rfl, Nat.le_of_ble_eq_true rfl⟩) dEx_sameCells_17 (rfl : kC[1]? = _) kA_1 rfl rfl (Nat.le_of_ble_eq_true rfl) ⟨Nat.le_of_ble_eq_true rfl, Nat.le_of_ble_eq_true rfl⟩ (fun r2 st1 h => ?_)
        refine jr_aload_n (q := 0) C dEx_sameCells_20 rfl rfl ?_
        refine jr_iload_n (q := 2) C dEx_sameCells_21 rfl rfl ?_
        refine jr_iload (q := 6) C dEx_sameCells_22 rfl ?_
        refine jr_callVi (As := [.int x2, .int x6]) (rest := [.int r2]) C (c_Ex_cellOf h) (cwV 2 C.2.2.2.2.1 (tg_V tm1_175 tm1_176 tm1_177 tm1_3 tm1_178) rfl rfl rfl ⟨rfl, by decide, by decide, by decide⟩ ⟨Nat.le_of_ble_eq_true rfl, Nat.le_of_ble_eq_true rfl⟩) dEx_sameCells_24 (rfl : kC[1]? = _) kA_1 rfl rfl (Nat.le_of_ble_eq_true rfl) ⟨Nat.le_of_ble_eq_true rfl, Nat.le_of_ble_eq_true rfl⟩ (fun r4 st3 h => ?_)
        refine jr_icmp_ne (tgt := 33) C dEx_sameCells_27 (by decide) (fun z => ?_) (fun z => ?_)
        · have h := h.1 z
          refine jr_iinc (q := 6) (v := (x6 + (1 : Int32))) (lv' := [(6, .int (x6 + (1 : Int32))), (0, .ref (ad 1)), (1, .int x1), (2, .int x2), (3, .int x3), (4, .int x4), (5, .int x5)]) C dEx_sameCells_33 rfl rfl (by decide) rfl ?_
          refine jr_goto (tgt := 6) C dEx_sameCells_36 (by decide) ?_
          refine jr_lv (lv' := [(0, .ref (ad 1)), (1, .int x1), (2, .int x2), (3, .int x3), (4, .int x4), (5, .int x5), (6, .int (x6 + (1 : Int32)))]) [1, 2, 3, 4, 5, 6, 0] rfl ?_
          exact ih st3 x1 x2 x3 x4 x5 (x6 + (1 : Int32)) h
        · have h := h.2 z
          refine jr_iinc (q := 5) (v := (x5 + (1 : Int32))) (lv' := [(5, .int (x5 + (1 : Int32))), (0, .ref (ad 1)), (1, .int x1), (2, .int x2), (3, .int x3), (4, .int x4), (6, .int x6)]) C dEx_sameCells_30 rfl rfl (by decide) rfl ?_
          refine jr_iinc (q := 6) (v := (x6 + (1 : Int32))) (lv' := [(6, .int (x6 + (1 : Int32))), (5, .int (x5 + (1 : Int32))), (0, .ref (ad 1)), (1, .int x1), (2, .int x2), (3, .int x3), (4, .int x4)]) C dEx_sameCells_33 rfl rfl (by decide) rfl ?_
          refine jr_goto (tgt := 6) C dEx_sameCells_36 (by decide) ?_
          refine jr_lv (lv' := [(0, .ref (ad 1)), (1, .int x1), (2, .int x2), (3, .int x3), (4, .int x4), (5, .int (x5 + (1 : Int32))), (6, .int (x6 + (1 : Int32)))]) [2, 3, 4, 5, 6, 1, 0] rfl ?_
          exact ih st3 x1 x2 x3 x4 (x5 + (1 : Int32)) (x6 + (1 : Int32)) h
  obtain ⟨n6, h⟩ := h
  refine jr_lv (lv' := [(0, .ref (ad 1)), (1, .int l1), (2, .int l2), (3, .int l3), (4, .int l4), (5, .int (0 : Int32)), (6, .int l3)]) [2, 3, 4, 5, 6, 1, 0] rfl ?_
  exact lp5 n6 st l1 l2 l3 l4 (0 : Int32) l3 h
def wp_Ex_countTaught_4 (K F : Nat) (post : Int32 → jS → Prop) : Nat → jS → Int32 → Int32 → Int32 → Prop
  | 0 => fun _ _ _ _ => False
  | n + 1 => fun st x1 x2 x3 => (((st 1 5) ≤ x3 → post x2 st) ∧ (¬ (st 1 5) ≤ x3 → vp_in x3 24 ∧ ((¬ (st 6 (Int32.toNatClampNeg x3)) = x1 → wp_Ex_countTaught_4 K F post n st x1 x2 (x3 + (1 : Int32))) ∧ ((st 6 (Int32.toNatClampNeg x3)) = x1 → wp_Ex_countTaught_4 K F post n st x1 (x2 + (1 : Int32)) (x3 + (1 : Int32))))))
def wp_Ex_countTaught (K F : Nat) (st : jS) (l1 : Int32) (post : Int32 → jS → Prop) : Prop :=
  (∃ n4, wp_Ex_countTaught_4 K F post n4 st l1 (0 : Int32) (0 : Int32))
set_option maxRecDepth 100000 in
set_option maxHeartbeats 4000000 in
theorem c_Ex_countTaught {st : jS} {l1 : Int32} {post : Int32 → jS → Prop} (h : wp_Ex_countTaught K F st l1 post) : jr_Mi l yEx_countTaught wEx_countTaught ({ frames := 0, cells := 0, slots := 0, locals := 0 }) [.ref (ad 1), .int l1] D kC (kT cI cII cL cJ) (kW cI cII cL ad K F fr st) (kW cI cII cL ad K F fr) post := by
  refine jr_ofi (cc := bEx_countTaught) (nL := 4) (lv := [(0, .ref (ad 1)), (1, .int l1)]) (by decide) rfl (Nat.le_of_ble_eq_true rfl) rfl (fun p e s m args below meth c A C hr hlocks => ?_)
  unfold wp_Ex_countTaught at h
  refine jr_iconst (v := 0) C dEx_countTaught_0 (by decide) ?_
  refine jr_istore_n (lv' := [(2, .int (0 : Int32)), (0, .ref (ad 1)), (1, .int l1)]) C dEx_countTaught_1 rfl (by decide) rfl ?_
  refine jr_iconst (v := 0) C dEx_countTaught_2 (by decide) ?_
  refine jr_istore_n (lv' := [(3, .int (0 : Int32)), (2, .int (0 : Int32)), (0, .ref (ad 1)), (1, .int l1)]) C dEx_countTaught_3 rfl (by decide) rfl ?_
  have lp2 : ∀ (n : Nat) (st : jS) (x1 : Int32) (x2 : Int32) (x3 : Int32), wp_Ex_countTaught_4 K F post n st x1 x2 x3 → jr_J p l e (headSpec wEx_countTaught ({ frames := 0, cells := 0, slots := 0, locals := 0 })).room s m args below meth c A D kC 4 0 0 (MQ below (va_Qi post (jr_B D kC (kT cI cII cL cJ) (kW cI cII cL ad K F fr) A) A) args s 0 0 A) (kW cI cII cL ad K F fr st) 4 [(0, .ref (ad 1)), (1, .int x1), (2, .int x2), (3, .int x3)] [] := by
    intro n
    induction n with
    | zero => intro st x1 x2 x3 h; exact h.elim
    | succ n ih =>
      intro st x1 x2 x3 h
      unfold wp_Ex_countTaught_4 at h
      refine jr_iload_n (q := 3) C dEx_countTaught_4 rfl rfl ?_
      refine jr_aload_n (q := 0) C dEx_countTaught_5 rfl rfl ?_
      refine jr_getf (k := 5) C dEx_countTaught_6 inw_Ex (rfl : kC[1]? = _) (by decide) (List.mem_cons_of_mem _ tm1_46) rfl kA_1 rfl ?_
      refine jr_icmp_ge (tgt := 31) C dEx_countTaught_9 (by decide) (fun z => ?_) (fun z => ?_)
      · have h := h.1 z
        refine jr_iload_n (q := 2) C dEx_countTaught_31 rfl rfl ?_
        exact jr_reti C hr hlocks dEx_countTaught_32 h rfl
      · have h := h.2 z
        refine jr_aload_n (q := 0) C dEx_countTaught_12 rfl rfl ?_
        refine jr_getf (k := 2) C dEx_countTaught_13 inw_Ex (rfl : kC[1]? = _) (by decide) (List.mem_cons_of_mem _ tm1_40) rfl kA_1 rfl ?_
        refine jr_iload_n (q := 3) C dEx_countTaught_16 rfl rfl ?_
        obtain ⟨h1, h⟩ := h
        refine jr_iald (t0 := 0) C dEx_countTaught_17 kA_6 rfl h1 ?_
        refine jr_iload_n (q := 1) C dEx_countTaught_18 rfl rfl ?_
        refine jr_icmp_ne (tgt := 25) C dEx_countTaught_19 (by decide) (fun z => ?_) (fun z => ?_)
        · have h := h.1 z
          refine jr_iinc (q := 3) (v := (x3 + (1 : Int32))) (lv' := [(3, .int (x3 + (1 : Int32))), (0, .ref (ad 1)), (1, .int x1), (2, .int x2)]) C dEx_countTaught_25 rfl rfl (by decide) rfl ?_
          refine jr_goto (tgt := 4) C dEx_countTaught_28 (by decide) ?_
          refine jr_lv (lv' := [(0, .ref (ad 1)), (1, .int x1), (2, .int x2), (3, .int (x3 + (1 : Int32)))]) [1, 2, 3, 0] rfl ?_
          exact ih st x1 x2 (x3 + (1 : Int32)) h
        · have h := h.2 z
          refine jr_iinc (q := 2) (v := (x2 + (1 : Int32))) (lv' := [(2, .int (x2 + (1 : Int32))), (0, .ref (ad 1)), (1, .int x1), (3, .int x3)]) C dEx_countTaught_22 rfl rfl (by decide) rfl ?_
          refine jr_iinc (q := 3) (v := (x3 + (1 : Int32))) (lv' := [(3, .int (x3 + (1 : Int32))), (2, .int (x2 + (1 : Int32))), (0, .ref (ad 1)), (1, .int x1)]) C dEx_countTaught_25 rfl rfl (by decide) rfl ?_
          refine jr_goto (tgt := 4) C dEx_countTaught_28 (by decide) ?_
          refine jr_lv (lv' := [(0, .ref (ad 1)), (1, .int x1), (2, .int (x2 + (1 : Int32))), (3, .int (x3 + (1 : Int32)))]) [2, 3, 1, 0] rfl ?_
          exact ih st x1 (x2 + (1 : Int32)) (x3 + (1 : Int32)) h
  obtain ⟨n3, h⟩ := h
  refine jr_lv (lv' := [(0, .ref (ad 1)), (1, .int l1), (2, .int (0 : Int32)), (3, .int (0 : Int32))]) [2, 3, 1, 0] rfl ?_
  exact lp2 n3 st l1 (0 : Int32) (0 : Int32) h
def wp_KT_square (K F : Nat) (st : jS) (l0 : Int32) (post : Int32 → jS → Prop) : Prop :=
  post (l0 * l0) st
set_option maxRecDepth 100000 in
set_option maxHeartbeats 4000000 in
theorem c_KT_square {st : jS} {l0 : Int32} {post : Int32 → jS → Prop} (h : wp_KT_square K F st l0 post) : jr_Mi l yKT_square wKT_square ({ frames := 0, cells := 0, slots := 0, locals := 0 }) [.int l0] D kC (kT cI cII cL cJ) (kW cI cII cL ad K F fr st) (kW cI cII cL ad K F fr) post := by
  refine jr_ofi (cc := bKT_square) (nL := 1) (lv := [(0, .int l0)]) (by decide) rfl (Nat.le_of_ble_eq_true rfl) rfl (fun p e s m args below meth c A C hr hlocks => ?_)
  unfold wp_KT_square at h
  refine jr_iload_n (q := 0) C dKT_square_0 rfl rfl ?_
  refine jr_iload_n (q := 0) C dKT_square_1 rfl rfl ?_
  refine jr_imul C dKT_square_2 ?_
  exact jr_reti C hr hlocks dKT_square_3 h rfl
def wp_Ex_squares_5 (K F : Nat) (post : Int32 → jS → Prop) : Nat → jS → Int32 → Int32 → Int32 → Int32 → Prop
  | 0 => fun _ _ _ _ _ => False
  | n + 1 => fun st x1 x2 x3 x4 => (((st 1 0) ≤ x4 → post x3 st) ∧ (¬ (st 1 0) ≤ x4 → vp_in x1 24 ∧ vp_in x4 F ∧ vp_in x2 24 ∧ vp_in x4 F ∧ wp_KT_square K F st ((st (15 + (Int32.toNatClampNeg x1)) (Int32.toNatClampNeg x4)) - (st (15 + (Int32.toNatClampNeg x2)) (Int32.toNatClampNeg x4))) (fun r6 st5 => wp_Ex_squares_5 K F post n st5 x1 x2 (x3 + r6) (x4 + (1 : Int32)))))
def wp_Ex_squares (K F : Nat) (st : jS) (l1 : Int32) (l2 : Int32) (post : Int32 → jS → Prop) : Prop :=
  (∃ n9, wp_Ex_squares_5 K F post n9 st l1 l2 (0 : Int32) (0 : Int32))
set_option maxRecDepth 100000 in
set_option maxHeartbeats 4000000 in
theorem c_Ex_squares {st : jS} {l1 : Int32} {l2 : Int32} {post : Int32 → jS → Prop} (h : wp_Ex_squares K F st l1 l2 post) : jr_Mi l yEx_squares wEx_squares ({ frames := 1, cells := 0, slots := 0, locals := 20 }) [.ref (ad 1), .int l1, .int l2] D kC (kT cI cII cL cJ) (kW cI cII cL ad K F fr st) (kW cI cII cL ad K F fr) post := by
  refine jr_ofi (cc := bEx_squares) (nL := 5) (lv := [(0, .ref (ad 1)), (1, .int l1), (2, .int l2)]) (by decide) rfl (Nat.le_of_ble_eq_true rfl) rfl (fun p e s m args below meth c A C hr hlocks => ?_)
  unfold wp_Ex_squares at h
  refine jr_iconst (v := 0) C dEx_squares_0 (by decide) ?_
  refine jr_istore_n (lv' := [(3, .int (0 : Int32)), (0, .ref (ad 1)), (1, .int l1), (2, .int l2)]) C dEx_squares_1 rfl (by decide) rfl ?_
  refine jr_iconst (v := 0) C dEx_squares_2 (by decide) ?_
  refine jr_istore (lv' := [(4, .int (0 : Int32)), (3, .int (0 : Int32)), (0, .ref (ad 1)), (1, .int l1), (2, .int l2)]) C dEx_squares_3 (by decide) rfl ?_
  have lp7 : ∀ (n : Nat) (st : jS) (x1 : Int32) (x2 : Int32) (x3 : Int32) (x4 : Int32), wp_Ex_squares_5 K F post n st x1 x2 x3 x4 → jr_J p l e (headSpec wEx_squares ({ frames := 1, cells := 0, slots := 0, locals := 20 })).room s m args below meth c A D kC 5 0 0 (MQ below (va_Qi post (jr_B D kC (kT cI cII cL cJ) (kW cI cII cL ad K F fr) A) A) args s 0 0 A) (kW cI cII cL ad K F fr st) 5 [(0, .ref (ad 1)), (1, .int x1), (2, .int x2), (3, .int x3), (4, .int x4)] [] := by
    intro n
    induction n with
    | zero => intro st x1 x2 x3 x4 h; exact h.elim
    | succ n ih =>
      intro st x1 x2 x3 x4 h
      unfold wp_Ex_squares_5 at h
      refine jr_iload (q := 4) C dEx_squares_5 rfl ?_
      refine jr_aload_n (q := 0) C dEx_squares_7 rfl rfl ?_
      refine jr_getf (k := 0) C dEx_squares_8 inw_Ex (rfl : kC[1]? = _) (by decide) (List.mem_cons_of_mem _ tm1_36) rfl kA_1 rfl ?_
      refine jr_icmp_ge (tgt := 45) C dEx_squares_11 (by decide) (fun z => ?_) (fun z => ?_)
      · have h := h.1 z
        refine jr_iload_n (q := 3) C dEx_squares_45 rfl rfl ?_
        exact jr_reti C hr hlocks dEx_squares_46 h rfl
      · have h := h.2 z
        refine jr_iload_n (q := 3) C dEx_squares_14 rfl rfl ?_
        refine jr_aload_n (q := 0) C dEx_squares_15 rfl rfl ?_
        refine jr_getf (k := 1) C dEx_squares_16 inw_Ex (rfl : kC[1]? = _) (by decide) (List.mem_cons_of_mem _ tm1_38) rfl kA_1 rfl ?_
        refine jr_iload_n (q := 1) C dEx_squares_19 rfl rfl ?_
        obtain ⟨h1, h⟩ := h
        refine jr_alda (t0 := 1) C dEx_squares_20 kA_5 rfl h1 (kE_num h1) ?_
        refine jr_iload (q := 4) C dEx_squares_21 rfl ?_
        obtain ⟨h2, h⟩ := h
        refine jr_iald (t0 := 0) C dEx_squares_23 (kA_rownum h1) rfl h2 ?_
        refine jr_aload_n (q := 0) C dEx_squares_24 rfl rfl ?_
        refine jr_getf (k := 1) C dEx_squares_25 inw_Ex (rfl : kC[1]? = _) (by decide) (List.mem_cons_of_mem _ tm1_38) rfl kA_1 rfl ?_
        refine jr_iload_n (q := 2) C dEx_squares_28 rfl rfl ?_
        obtain ⟨h3, h⟩ := h
        refine jr_alda (t0 := 1) C dEx_squares_29 kA_5 rfl h3 (kE_num h3) ?_
        refine jr_iload (q := 4) C dEx_squares_30 rfl ?_
        obtain ⟨h4, h⟩ := h
        refine jr_iald (t0 := 0) C dEx_squares_32 (kA_rownum h3) rfl h4 ?_
        refine jr_isub C dEx_squares_33 ?_
        refine jr_callSNi (As := [.int ((st (15 + (Int32.toNatClampNeg x1)) (Int32.toNatClampNeg x4)) - (st (15 + (Int32.toNatClampNeg x2)) (Int32.toNatClampNeg x4)))]) (rest := [.int x3]) C (c_KT_square h) ⟨va_cnB 1 C.2.2.2.2.1 (tg_N tm3_12) rfl rfl rfl (C.2.2.2.2.2.2.2 _ (List.mem_of_getElem? (i := 9) rfl)) (C.2.2.2.2.1 _ (List.mem_cons_of_mem _ tm1_1)) ⟨by decide, by decide, by decide⟩ ⟨Nat.le_of_ble_eq_true rfl, Nat.le_of_ble_eq_true rfl⟩, C.2.2.2.2.1 _ (List.mem_cons_of_mem _ tm3_11), trivial⟩ dEx_squares_34 rfl rfl (Nat.le_of_ble_eq_true rfl) ⟨Nat.le_of_ble_eq_true rfl, Nat.le_of_ble_eq_true rfl⟩ (fun r6 st5 h => ?_)
        refine jr_iadd C dEx_squares_37 ?_
        refine jr_istore_n (lv' := [(3, .int (x3 + r6)), (0, .ref (ad 1)), (1, .int x1), (2, .int x2), (4, .int x4)]) C dEx_squares_38 rfl (by decide) rfl ?_
        refine jr_iinc (q := 4) (v := (x4 + (1 : Int32))) (lv' := [(4, .int (x4 + (1 : Int32))), (3, .int (x3 + r6)), (0, .ref (ad 1)), (1, .int x1), (2, .int x2)]) C dEx_squares_39 rfl rfl (by decide) rfl ?_
        refine jr_goto (tgt := 5) C dEx_squares_42 (by decide) ?_
        refine jr_lv (lv' := [(0, .ref (ad 1)), (1, .int x1), (2, .int x2), (3, .int (x3 + r6)), (4, .int (x4 + (1 : Int32)))]) [2, 3, 4, 1, 0] rfl ?_
        exact ih st5 x1 x2 (x3 + r6) (x4 + (1 : Int32)) h
  obtain ⟨n8, h⟩ := h
  refine jr_lv (lv' := [(0, .ref (ad 1)), (1, .int l1), (2, .int l2), (3, .int (0 : Int32)), (4, .int (0 : Int32))]) [2, 3, 4, 1, 0] rfl ?_
  exact lp7 n8 st l1 l2 (0 : Int32) (0 : Int32) h
def wp_Ex_isCandidate (K F : Nat) (st : jS) (l1 : Int32) (l2 : Int32) (post : Int32 → jS → Prop) : Prop :=
  ((l1 = l2 → post (0 : Int32) st) ∧ (¬ l1 = l2 → vp_in l1 24 ∧ (((st 6 (Int32.toNatClampNeg l1)) = (-1 : Int32) → post (0 : Int32) st) ∧ (¬ (st 6 (Int32.toNatClampNeg l1)) = (-1 : Int32) → post (1 : Int32) st))))
set_option maxRecDepth 100000 in
set_option maxHeartbeats 4000000 in
theorem c_Ex_isCandidate {st : jS} {l1 : Int32} {l2 : Int32} {post : Int32 → jS → Prop} (h : wp_Ex_isCandidate K F st l1 l2 post) : jr_Mi l yEx_isCandidate wEx_isCandidate ({ frames := 0, cells := 0, slots := 0, locals := 0 }) [.ref (ad 1), .int l1, .int l2] D kC (kT cI cII cL cJ) (kW cI cII cL ad K F fr st) (kW cI cII cL ad K F fr) post := by
  refine jr_ofz (cc := bEx_isCandidate) (nL := 3) (lv := [(0, .ref (ad 1)), (1, .int l1), (2, .int l2)]) (by decide) rfl (Nat.le_of_ble_eq_true rfl) rfl (fun p e s m args below meth c A C hr hlocks => ?_)
  unfold wp_Ex_isCandidate at h
  refine jr_iload_n (q := 1) C dEx_isCandidate_0 rfl rfl ?_
  refine jr_iload_n (q := 2) C dEx_isCandidate_1 rfl rfl ?_
  refine jr_icmp_eq (tgt := 19) C dEx_isCandidate_2 (by decide) (fun z => ?_) (fun z => ?_)
  · have h := h.1 z
    refine jr_iconst (v := 0) C dEx_isCandidate_19 (by decide) ?_
    exact jr_retz C hr rfl hlocks dEx_isCandidate_20 h rfl
  · have h := h.2 z
    refine jr_aload_n (q := 0) C dEx_isCandidate_5 rfl rfl ?_
    refine jr_getf (k := 2) C dEx_isCandidate_6 inw_Ex (rfl : kC[1]? = _) (by decide) (List.mem_cons_of_mem _ tm1_40) rfl kA_1 rfl ?_
    refine jr_iload_n (q := 1) C dEx_isCandidate_9 rfl rfl ?_
    obtain ⟨h1, h⟩ := h
    refine jr_iald (t0 := 0) C dEx_isCandidate_10 kA_6 rfl h1 ?_
    refine jr_iconst (v := -1) C dEx_isCandidate_11 (by decide) ?_
    refine jr_icmp_eq (tgt := 19) C dEx_isCandidate_12 (by decide) (fun z => ?_) (fun z => ?_)
    · have h := h.1 z
      refine jr_iconst (v := 0) C dEx_isCandidate_19 (by decide) ?_
      exact jr_retz C hr rfl hlocks dEx_isCandidate_20 h rfl
    · have h := h.2 z
      refine jr_iconst (v := 1) C dEx_isCandidate_15 (by decide) ?_
      refine jr_goto (tgt := 20) C dEx_isCandidate_16 (by decide) ?_
      exact jr_retz C hr rfl hlocks dEx_isCandidate_20 h rfl
def wp_Ex_countNearer_13 (K F : Nat) (post : Int32 → jS → Prop) : Nat → jS → Int32 → Int32 → Int32 → Int32 → Int32 → Prop
  | 0 => fun _ _ _ _ _ _ => False
  | n + 1 => fun st x1 x2 x3 x4 x5 => (((st 1 5) ≤ x5 → post x4 st) ∧ (¬ (st 1 5) ≤ x5 → wp_Ex_isCandidate K F st x5 x2 (fun r4 st3 => ((r4 = 0 → wp_Ex_countNearer_13 K F post n st3 x1 x2 x3 x4 (x5 + (1 : Int32))) ∧ (¬ r4 = 0 → wp_Ex_squares K F st3 x5 x2 (fun r6 st5 => ((r6 < x3 → wp_Ex_countNearer_13 K F post n st5 x1 x2 x3 (x4 + (1 : Int32)) (x5 + (1 : Int32))) ∧ (¬ r6 < x3 → ((¬ r6 = x3 → wp_Ex_countNearer_13 K F post n st5 x1 x2 x3 x4 (x5 + (1 : Int32))) ∧ (r6 = x3 → ((x1 ≤ x5 → wp_Ex_countNearer_13 K F post n st5 x1 x2 x3 x4 (x5 + (1 : Int32))) ∧ (¬ x1 ≤ x5 → wp_Ex_countNearer_13 K F post n st5 x1 x2 x3 (x4 + (1 : Int32)) (x5 + (1 : Int32))))))))))))))
def wp_Ex_countNearer (K F : Nat) (st : jS) (l1 : Int32) (l2 : Int32) (post : Int32 → jS → Prop) : Prop :=
  wp_Ex_squares K F st l1 l2 (fun r2 st1 => (∃ n9, wp_Ex_countNearer_13 K F post n9 st1 l1 l2 r2 (0 : Int32) (0 : Int32)))
set_option maxRecDepth 100000 in
set_option maxHeartbeats 4000000 in
theorem c_Ex_countNearer {st : jS} {l1 : Int32} {l2 : Int32} {post : Int32 → jS → Prop} (h : wp_Ex_countNearer K F st l1 l2 post) : jr_Mi l yEx_countNearer wEx_countNearer ({ frames := 2, cells := 0, slots := 0, locals := 44 }) [.ref (ad 1), .int l1, .int l2] D kC (kT cI cII cL cJ) (kW cI cII cL ad K F fr st) (kW cI cII cL ad K F fr) post := by
  refine jr_ofi (cc := bEx_countNearer) (nL := 7) (lv := [(0, .ref (ad 1)), (1, .int l1), (2, .int l2)]) (by decide) rfl (Nat.le_of_ble_eq_true rfl) rfl (fun p e s m args below meth c A C hr hlocks => ?_)
  unfold wp_Ex_countNearer at h
  refine jr_aload_n (q := 0) C dEx_countNearer_0 rfl rfl ?_
  refine jr_iload_n (q := 1) C dEx_countNearer_1 rfl rfl ?_
  refine jr_iload_n (q := 2) C dEx_countNearer_2 rfl rfl ?_
  refine jr_callVi (As := [.int l1, .int l2]) (rest := []) C (c_Ex_squares h) (cwV 2 C.2.2.2.2.1 (tg_V tm3_6 tm3_7 tm3_8 tm1_3 tm3_9) rfl rfl rfl ⟨rfl, by decide, by decide, by decide⟩ ⟨Nat.le_of_ble_eq_true rfl, Nat.le_of_ble_eq_true rfl⟩) dEx_countNearer_3 (rfl : kC[1]? = _) kA_1 rfl rfl (Nat.le_of_ble_eq_true rfl) ⟨Nat.le_of_ble_eq_true rfl, Nat.le_of_ble_eq_true rfl⟩ (fun r2 st1 h => ?_)
  refine jr_istore_n (lv' := [(3, .int r2), (0, .ref (ad 1)), (1, .int l1), (2, .int l2)]) C dEx_countNearer_6 rfl (by decide) rfl ?_
  refine jr_iconst (v := 0) C dEx_countNearer_7 (by decide) ?_
  refine jr_istore (lv' := [(4, .int (0 : Int32)), (3, .int r2), (0, .ref (ad 1)), (1, .int l1), (2, .int l2)]) C dEx_countNearer_8 (by decide) rfl ?_
  refine jr_iconst (v := 0) C dEx_countNearer_10 (by decide) ?_
  refine jr_istore (lv' := [(5, .int (0 : Int32)), (4, .int (0 : Int32)), (3, .int r2), (0, .ref (ad 1)), (1, .int l1), (2, .int l2)]) C dEx_countNearer_11 (by decide) rfl ?_
  have lp7 : ∀ (n : Nat) (st : jS) (x1 : Int32) (x2 : Int32) (x3 : Int32) (x4 : Int32) (x5 : Int32), wp_Ex_countNearer_13 K F post n st x1 x2 x3 x4 x5 → jr_J p l e (headSpec wEx_countNearer ({ frames := 2, cells := 0, slots := 0, locals := 44 })).room s m args below meth c A D kC 7 0 0 (MQ below (va_Qi post (jr_B D kC (kT cI cII cL cJ) (kW cI cII cL ad K F fr) A) A) args s 0 0 A) (kW cI cII cL ad K F fr st) 13 [(0, .ref (ad 1)), (1, .int x1), (2, .int x2), (3, .int x3), (4, .int x4), (5, .int x5)] [] := by
    intro n
    induction n with
    | zero => intro st x1 x2 x3 x4 x5 h; exact h.elim
    | succ n ih =>
      intro st x1 x2 x3 x4 x5 h
      unfold wp_Ex_countNearer_13 at h
      refine jr_iload (q := 5) C dEx_countNearer_13 rfl ?_
      refine jr_aload_n (q := 0) C dEx_countNearer_15 rfl rfl ?_
      refine jr_getf (k := 5) C dEx_countNearer_16 inw_Ex (rfl : kC[1]? = _) (by decide) (List.mem_cons_of_mem _ tm1_46) rfl kA_1 rfl ?_
      refine jr_icmp_ge (tgt := 68) C dEx_countNearer_19 (by decide) (fun z => ?_) (fun z => ?_)
      · have h := h.1 z
        refine jr_iload (q := 4) C dEx_countNearer_68 rfl ?_
        exact jr_reti C hr hlocks dEx_countNearer_70 h rfl
      · have h := h.2 z
        refine jr_aload_n (q := 0) C dEx_countNearer_22 rfl rfl ?_
        refine jr_iload (q := 5) C dEx_countNearer_23 rfl ?_
        refine jr_iload_n (q := 2) C dEx_countNearer_25 rfl rfl ?_
        refine jr_callVi (As := [.int x5, .int x2]) (rest := []) C (c_Ex_isCandidate h) (cwV 2 C.2.2.2.2.1 (tg_V tm2_238 tm3_0 tp_10 tm1_3 tm3_1) rfl rfl rfl ⟨rfl, by decide, by decide, by decide⟩ ⟨Nat.le_of_ble_eq_true rfl, Nat.le_of_ble_eq_true rfl⟩) dEx_countNearer_26 (rfl : kC[1]? = _) kA_1 rfl rfl (Nat.le_of_ble_eq_true rfl) ⟨Nat.le_of_ble_eq_true rfl, Nat.le_of_ble_eq_true rfl⟩ (fun r4 st3 h => ?_)
        refine jr_if_eq (tgt := 62) C dEx_countNearer_29 (by decide) (fun z => ?_) (fun z => ?_)
        · have h := h.1 z
          refine jr_iinc (q := 5) (v := (x5 + (1 : Int32))) (lv' := [(5, .int (x5 + (1 : Int32))), (0, .ref (ad 1)), (1, .int x1), (2, .int x2), (3, .int x3), (4, .int x4)]) C dEx_countNearer_62 rfl rfl (by decide) rfl ?_
          refine jr_goto (tgt := 13) C dEx_countNearer_65 (by decide) ?_
          refine jr_lv (lv' := [(0, .ref (ad 1)), (1, .int x1), (2, .int x2), (3, .int x3), (4, .int x4), (5, .int (x5 + (1 : Int32)))]) [1, 2, 3, 4, 5, 0] rfl ?_
          exact ih st3 x1 x2 x3 x4 (x5 + (1 : Int32)) h
        · have h := h.2 z
          refine jr_aload_n (q := 0) C dEx_countNearer_32 rfl rfl ?_
          refine jr_iload (q := 5) C dEx_countNearer_33 rfl ?_
          refine jr_iload_n (q := 2) C dEx_countNearer_35 rfl rfl ?_
          refine jr_callVi (As := [.int x5, .int x2]) (rest := []) C (c_Ex_squares h) (cwV 2 C.2.2.2.2.1 (tg_V tm3_6 tm3_7 tm3_8 tm1_3 tm3_9) rfl rfl rfl ⟨rfl, by decide, by decide, by decide⟩ ⟨Nat.le_of_ble_eq_true rfl, Nat.le_of_ble_eq_true rfl⟩) dEx_countNearer_36 (rfl : kC[1]? = _) kA_1 rfl rfl (Nat.le_of_ble_eq_true rfl) ⟨Nat.le_of_ble_eq_true rfl, Nat.le_of_ble_eq_true rfl⟩ (fun r6 st5 h => ?_)
          refine jr_istore (lv' := [(6, .int r6), (0, .ref (ad 1)), (1, .int x1), (2, .int x2), (3, .int x3), (4, .int x4), (5, .int x5)]) C dEx_countNearer_39 (by decide) rfl ?_
          refine jr_iload (q := 0) C dEx_countNearer_41 rfl ?_
          refine jr_iload_n (q := 4) C dEx_countNearer_43 rfl rfl ?_
          refine jr_icmp_lt (tgt := 59) C dEx_countNearer_44 (by decide) (fun z => ?_) (fun z => ?_)
          · have h := h.1 z
            refine jr_iinc (q := 5) (v := (x4 + (1 : Int32))) (lv' := [(4, .int (x4 + (1 : Int32))), (6, .int r6), (0, .ref (ad 1)), (1, .int x1), (2, .int x2), (3, .int x3), (5, .int x5)]) C dEx_countNearer_59 rfl rfl (by decide) rfl ?_
            refine jr_iinc (q := 6) (v := (x5 + (1 : Int32))) (lv' := [(5, .int (x5 + (1 : Int32))), (4, .int (x4 + (1 : Int32))), (6, .int r6), (0, .ref (ad 1)), (1, .int x1), (2, .int x2), (3, .int x3)]) C dEx_countNearer_62 rfl rfl (by decide) rfl ?_
            refine jr_goto (tgt := 13) C dEx_countNearer_65 (by decide) ?_
            refine jr_lv (lv' := [(0, .ref (ad 1)), (1, .int x1), (2, .int x2), (3, .int x3), (4, .int (x4 + (1 : Int32))), (5, .int (x5 + (1 : Int32)))]) [3, 4, 5, 6, 1, 0] rfl ?_
            exact ih st5 x1 x2 x3 (x4 + (1 : Int32)) (x5 + (1 : Int32)) h
          · have h := h.2 z
            refine jr_iload (q := 0) C dEx_countNearer_47 rfl ?_
            refine jr_iload_n (q := 4) C dEx_countNearer_49 rfl rfl ?_
            refine jr_icmp_ne (tgt := 62) C dEx_countNearer_50 (by decide) (fun z => ?_) (fun z => ?_)
            · have h := h.1 z
              refine jr_iinc (q := 6) (v := (x5 + (1 : Int32))) (lv' := [(5, .int (x5 + (1 : Int32))), (6, .int r6), (0, .ref (ad 1)), (1, .int x1), (2, .int x2), (3, .int x3), (4, .int x4)]) C dEx_countNearer_62 rfl rfl (by decide) rfl ?_
              refine jr_goto (tgt := 13) C dEx_countNearer_65 (by decide) ?_
              refine jr_lv (lv' := [(0, .ref (ad 1)), (1, .int x1), (2, .int x2), (3, .int x3), (4, .int x4), (5, .int (x5 + (1 : Int32)))]) [2, 3, 4, 5, 6, 0] rfl ?_
              exact ih st5 x1 x2 x3 x4 (x5 + (1 : Int32)) h
            · have h := h.2 z
              refine jr_iload (q := 6) C dEx_countNearer_53 rfl ?_
              refine jr_iload_n (q := 2) C dEx_countNearer_55 rfl rfl ?_
              refine jr_icmp_ge (tgt := 62) C dEx_countNearer_56 (by decide) (fun z => ?_) (fun z => ?_)
              · have h := h.1 z
                refine jr_iinc (q := 6) (v := (x5 + (1 : Int32))) (lv' := [(5, .int (x5 + (1 : Int32))), (6, .int r6), (0, .ref (ad 1)), (1, .int x1), (2, .int x2), (3, .int x3), (4, .int x4)]) C dEx_countNearer_62 rfl rfl (by decide) rfl ?_
                refine jr_goto (tgt := 13) C dEx_countNearer_65 (by decide) ?_
                refine jr_lv (lv' := [(0, .ref (ad 1)), (1, .int x1), (2, .int x2), (3, .int x3), (4, .int x4), (5, .int (x5 + (1 : Int32)))]) [2, 3, 4, 5, 6, 0] rfl ?_
                exact ih st5 x1 x2 x3 x4 (x5 + (1 : Int32)) h
              · have h := h.2 z
                refine jr_iinc (q := 5) (v := (x4 + (1 : Int32))) (lv' := [(4, .int (x4 + (1 : Int32))), (6, .int r6), (0, .ref (ad 1)), (1, .int x1), (2, .int x2), (3, .int x3), (5, .int x5)]) C dEx_countNearer_59 rfl rfl (by decide) rfl ?_
                refine jr_iinc (q := 6) (v := (x5 + (1 : Int32))) (lv' := [(5, .int (x5 + (1 : Int32))), (4, .int (x4 + (1 : Int32))), (6, .int r6), (0, .ref (ad 1)), (1, .int x1), (2, .int x2), (3, .int x3)]) C dEx_countNearer_62 rfl rfl (by decide) rfl ?_
                refine jr_goto (tgt := 13) C dEx_countNearer_65 (by decide) ?_
                refine jr_lv (lv' := [(0, .ref (ad 1)), (1, .int x1), (2, .int x2), (3, .int x3), (4, .int (x4 + (1 : Int32))), (5, .int (x5 + (1 : Int32)))]) [3, 4, 5, 6, 1, 0] rfl ?_
                exact ih st5 x1 x2 x3 (x4 + (1 : Int32)) (x5 + (1 : Int32)) h
  obtain ⟨n8, h⟩ := h
  refine jr_lv (lv' := [(0, .ref (ad 1)), (1, .int l1), (2, .int l2), (3, .int r2), (4, .int (0 : Int32)), (5, .int (0 : Int32))]) [3, 4, 5, 2, 1, 0] rfl ?_
  exact lp7 n8 st1 l1 l2 r2 (0 : Int32) (0 : Int32) h
def wp_Ex_neighbour_2 (K F : Nat) (post : Int32 → jS → Prop) : Nat → jS → Int32 → Int32 → Int32 → Prop
  | 0 => fun _ _ _ _ => False
  | n + 1 => fun st x1 x2 x3 => (((st 1 5) ≤ x3 → post (-1 : Int32) st) ∧ (¬ (st 1 5) ≤ x3 → wp_Ex_isCandidate K F st x3 x1 (fun r2 st1 => ((r2 = 0 → wp_Ex_neighbour_2 K F post n st1 x1 x2 (x3 + (1 : Int32))) ∧ (¬ r2 = 0 → wp_Ex_countNearer K F st1 x3 x1 (fun r4 st3 => ((¬ r4 = x2 → wp_Ex_neighbour_2 K F post n st3 x1 x2 (x3 + (1 : Int32))) ∧ (r4 = x2 → post x3 st3))))))))
def wp_Ex_neighbour (K F : Nat) (st : jS) (l1 : Int32) (l2 : Int32) (post : Int32 → jS → Prop) : Prop :=
  (∃ n7, wp_Ex_neighbour_2 K F post n7 st l1 l2 (0 : Int32))
set_option maxRecDepth 100000 in
set_option maxHeartbeats 4000000 in
theorem c_Ex_neighbour {st : jS} {l1 : Int32} {l2 : Int32} {post : Int32 → jS → Prop} (h : wp_Ex_neighbour K F st l1 l2 post) : jr_Mi l yEx_neighbour wEx_neighbour ({ frames := 3, cells := 0, slots := 0, locals := 70 }) [.ref (ad 1), .int l1, .int l2] D kC (kT cI cII cL cJ) (kW cI cII cL ad K F fr st) (kW cI cII cL ad K F fr) post := by
  refine jr_ofi (cc := bEx_neighbour) (nL := 4) (lv := [(0, .ref (ad 1)), (1, .int l1), (2, .int l2)]) (by decide) rfl (Nat.le_of_ble_eq_true rfl) rfl (fun p e s m args below meth c A C hr hlocks => ?_)
  unfold wp_Ex_neighbour at h
  refine jr_iconst (v := 0) C dEx_neighbour_0 (by decide) ?_
  refine jr_istore_n (lv' := [(3, .int (0 : Int32)), (0, .ref (ad 1)), (1, .int l1), (2, .int l2)]) C dEx_neighbour_1 rfl (by decide) rfl ?_
  have lp5 : ∀ (n : Nat) (st : jS) (x1 : Int32) (x2 : Int32) (x3 : Int32), wp_Ex_neighbour_2 K F post n st x1 x2 x3 → jr_J p l e (headSpec wEx_neighbour ({ frames := 3, cells := 0, slots := 0, locals := 70 })).room s m args below meth c A D kC 4 0 0 (MQ below (va_Qi post (jr_B D kC (kT cI cII cL cJ) (kW cI cII cL ad K F fr) A) A) args s 0 0 A) (kW cI cII cL ad K F fr st) 2 [(0, .ref (ad 1)), (1, .int x1), (2, .int x2), (3, .int x3)] [] := by
    intro n
    induction n with
    | zero => intro st x1 x2 x3 h; exact h.elim
    | succ n ih =>
      intro st x1 x2 x3 h
      unfold wp_Ex_neighbour_2 at h
      refine jr_iload_n (q := 3) C dEx_neighbour_2 rfl rfl ?_
      refine jr_aload_n (q := 0) C dEx_neighbour_3 rfl rfl ?_
      refine jr_getf (k := 5) C dEx_neighbour_4 inw_Ex (rfl : kC[1]? = _) (by decide) (List.mem_cons_of_mem _ tm1_46) rfl kA_1 rfl ?_
      refine jr_icmp_ge (tgt := 37) C dEx_neighbour_7 (by decide) (fun z => ?_) (fun z => ?_)
      · have h := h.1 z
        refine jr_iconst (v := -1) C dEx_neighbour_37 (by decide) ?_
        exact jr_reti C hr hlocks dEx_neighbour_38 h rfl
      · have h := h.2 z
        refine jr_aload_n (q := 0) C dEx_neighbour_10 rfl rfl ?_
        refine jr_iload_n (q := 3) C dEx_neighbour_11 rfl rfl ?_
        refine jr_iload_n (q := 1) C dEx_neighbour_12 rfl rfl ?_
        refine jr_callVi (As := [.int x3, .int x1]) (rest := []) C (c_Ex_isCandidate h) (cwV 2 C.2.2.2.2.1 (tg_V tm2_238 tm3_0 tp_10 tm1_3 tm3_1) rfl rfl rfl ⟨rfl, by decide, by decide, by decide⟩ ⟨Nat.le_of_ble_eq_true rfl, Nat.le_of_ble_eq_true rfl⟩) dEx_neighbour_13 (rfl : kC[1]? = _) kA_1 rfl rfl (Nat.le_of_ble_eq_true rfl) ⟨Nat.le_of_ble_eq_true rfl, Nat.le_of_ble_eq_true rfl⟩ (fun r2 st1 h => ?_)
        refine jr_if_eq (tgt := 31) C dEx_neighbour_16 (by decide) (fun z => ?_) (fun z => ?_)
        · have h := h.1 z
          refine jr_iinc (q := 3) (v := (x3 + (1 : Int32))) (lv' := [(3, .int (x3 + (1 : Int32))), (0, .ref (ad 1)), (1, .int x1), (2, .int x2)]) C dEx_neighbour_31 rfl rfl (by decide) rfl ?_
          refine jr_goto (tgt := 2) C dEx_neighbour_34 (by decide) ?_
          refine jr_lv (lv' := [(0, .ref (ad 1)), (1, .int x1), (2, .int x2), (3, .int (x3 + (1 : Int32)))]) [1, 2, 3, 0] rfl ?_
          exact ih st1 x1 x2 (x3 + (1 : Int32)) h
        · have h := h.2 z
          refine jr_aload_n (q := 0) C dEx_neighbour_19 rfl rfl ?_
          refine jr_iload_n (q := 3) C dEx_neighbour_20 rfl rfl ?_
          refine jr_iload_n (q := 1) C dEx_neighbour_21 rfl rfl ?_
          refine jr_callVi (As := [.int x3, .int x1]) (rest := []) C (c_Ex_countNearer h) (cwV 2 C.2.2.2.2.1 (tg_V tm3_2 tm3_4 tp_11 tm1_3 tm3_5) rfl rfl rfl ⟨rfl, by decide, by decide, by decide⟩ ⟨Nat.le_of_ble_eq_true rfl, Nat.le_of_ble_eq_true rfl⟩) dEx_neighbour_22 (rfl : kC[1]? = _) kA_1 rfl rfl (Nat.le_of_ble_eq_true rfl) ⟨Nat.le_of_ble_eq_true rfl, Nat.le_of_ble_eq_true rfl⟩ (fun r4 st3 h => ?_)
          refine jr_iload_n (q := 2) C dEx_neighbour_25 rfl rfl ?_
          refine jr_icmp_ne (tgt := 31) C dEx_neighbour_26 (by decide) (fun z => ?_) (fun z => ?_)
          · have h := h.1 z
            refine jr_iinc (q := 3) (v := (x3 + (1 : Int32))) (lv' := [(3, .int (x3 + (1 : Int32))), (0, .ref (ad 1)), (1, .int x1), (2, .int x2)]) C dEx_neighbour_31 rfl rfl (by decide) rfl ?_
            refine jr_goto (tgt := 2) C dEx_neighbour_34 (by decide) ?_
            refine jr_lv (lv' := [(0, .ref (ad 1)), (1, .int x1), (2, .int x2), (3, .int (x3 + (1 : Int32)))]) [1, 2, 3, 0] rfl ?_
            exact ih st3 x1 x2 (x3 + (1 : Int32)) h
          · have h := h.2 z
            refine jr_iload_n (q := 3) C dEx_neighbour_29 rfl rfl ?_
            exact jr_reti C hr hlocks dEx_neighbour_30 h rfl
  obtain ⟨n6, h⟩ := h
  refine jr_lv (lv' := [(0, .ref (ad 1)), (1, .int l1), (2, .int l2), (3, .int (0 : Int32))]) [1, 2, 3, 0] rfl ?_
  exact lp5 n6 st l1 l2 (0 : Int32) h
def wp_Ex_joinGroups_2 (K F : Nat) (post : jS → Prop) : Nat → jS → Int32 → Int32 → Int32 → Prop
  | 0 => fun _ _ _ _ => False
  | n + 1 => fun st x1 x2 x3 => (((st 1 5) ≤ x3 → post st) ∧ (¬ (st 1 5) ≤ x3 → vp_in x3 24 ∧ ((¬ (st 8 (Int32.toNatClampNeg x3)) = x2 → wp_Ex_joinGroups_2 K F post n st x1 x2 (x3 + (1 : Int32))) ∧ ((st 8 (Int32.toNatClampNeg x3)) = x2 → vp_in x3 24 ∧ wp_Ex_joinGroups_2 K F post n (jq st 8 (Int32.toNatClampNeg x3) x1) x1 x2 (x3 + (1 : Int32))))))
def wp_Ex_joinGroups (K F : Nat) (st : jS) (l1 : Int32) (l2 : Int32) (post : jS → Prop) : Prop :=
  (∃ n5, wp_Ex_joinGroups_2 K F post n5 st l1 l2 (0 : Int32))
set_option maxRecDepth 100000 in
set_option maxHeartbeats 4000000 in
theorem c_Ex_joinGroups {st : jS} {l1 : Int32} {l2 : Int32} {post : jS → Prop} (h : wp_Ex_joinGroups K F st l1 l2 post) : jr_Mv l yEx_joinGroups wEx_joinGroups ({ frames := 0, cells := 0, slots := 0, locals := 0 }) [.ref (ad 1), .int l1, .int l2] D kC (kT cI cII cL cJ) (kW cI cII cL ad K F fr st) (kW cI cII cL ad K F fr) post := by
  refine jr_ofv (cc := bEx_joinGroups) (nL := 4) (lv := [(0, .ref (ad 1)), (1, .int l1), (2, .int l2)]) (by decide) rfl (Nat.le_of_ble_eq_true rfl) rfl (fun p e s m args below meth c A C hr hlocks => ?_)
  unfold wp_Ex_joinGroups at h
  refine jr_iconst (v := 0) C dEx_joinGroups_0 (by decide) ?_
  refine jr_istore_n (lv' := [(3, .int (0 : Int32)), (0, .ref (ad 1)), (1, .int l1), (2, .int l2)]) C dEx_joinGroups_1 rfl (by decide) rfl ?_
  have lp3 : ∀ (n : Nat) (st : jS) (x1 : Int32) (x2 : Int32) (x3 : Int32), wp_Ex_joinGroups_2 K F post n st x1 x2 x3 → jr_J p l e (headSpec wEx_joinGroups ({ frames := 0, cells := 0, slots := 0, locals := 0 })).room s m args below meth c A D kC 4 0 0 (MQ below (va_Qv post (jr_B D kC (kT cI cII cL cJ) (kW cI cII cL ad K F fr) A) A) args s 0 0 A) (kW cI cII cL ad K F fr st) 2 [(0, .ref (ad 1)), (1, .int x1), (2, .int x2), (3, .int x3)] [] := by
    intro n
    induction n with
    | zero => intro st x1 x2 x3 h; exact h.elim
    | succ n ih =>
      intro st x1 x2 x3 h
      unfold wp_Ex_joinGroups_2 at h
      refine jr_iload_n (q := 3) C dEx_joinGroups_2 rfl rfl ?_
      refine jr_aload_n (q := 0) C dEx_joinGroups_3 rfl rfl ?_
      refine jr_getf (k := 5) C dEx_joinGroups_4 inw_Ex (rfl : kC[1]? = _) (by decide) (List.mem_cons_of_mem _ tm1_46) rfl kA_1 rfl ?_
      refine jr_icmp_ge (tgt := 33) C dEx_joinGroups_7 (by decide) (fun z => ?_) (fun z => ?_)
      · have h := h.1 z
        exact jr_retv C hr hlocks dEx_joinGroups_33 h rfl
      · have h := h.2 z
        refine jr_aload_n (q := 0) C dEx_joinGroups_10 rfl rfl ?_
        refine jr_getf (k := 4) C dEx_joinGroups_11 inw_Ex (rfl : kC[1]? = _) (by decide) (List.mem_cons_of_mem _ tm1_45) rfl kA_1 rfl ?_
        refine jr_iload_n (q := 3) C dEx_joinGroups_14 rfl rfl ?_
        obtain ⟨h1, h⟩ := h
        refine jr_iald (t0 := 0) C dEx_joinGroups_15 kA_8 rfl h1 ?_
        refine jr_iload_n (q := 2) C dEx_joinGroups_16 rfl rfl ?_
        refine jr_icmp_ne (tgt := 27) C dEx_joinGroups_17 (by decide) (fun z => ?_) (fun z => ?_)
        · have h := h.1 z
          refine jr_iinc (q := 3) (v := (x3 + (1 : Int32))) (lv' := [(3, .int (x3 + (1 : Int32))), (0, .ref (ad 1)), (1, .int x1), (2, .int x2)]) C dEx_joinGroups_27 rfl rfl (by decide) rfl ?_
          refine jr_goto (tgt := 2) C dEx_joinGroups_30 (by decide) ?_
          refine jr_lv (lv' := [(0, .ref (ad 1)), (1, .int x1), (2, .int x2), (3, .int (x3 + (1 : Int32)))]) [1, 2, 3, 0] rfl ?_
          exact ih st x1 x2 (x3 + (1 : Int32)) h
        · have h := h.2 z
          refine jr_aload_n (q := 0) C dEx_joinGroups_20 rfl rfl ?_
          refine jr_getf (k := 4) C dEx_joinGroups_21 inw_Ex (rfl : kC[1]? = _) (by decide) (List.mem_cons_of_mem _ tm1_45) rfl kA_1 rfl ?_
          refine jr_iload_n (q := 3) C dEx_joinGroups_24 rfl rfl ?_
          refine jr_iload_n (q := 1) C dEx_joinGroups_25 rfl rfl ?_
          obtain ⟨h2, h⟩ := h
          refine jr_iast (t0 := 0) C dEx_joinGroups_26 kA_8 rfl h2 ?_
          refine jr_ws (ws' := kW cI cII cL ad K F fr (jq st 8 (Int32.toNatClampNeg x3) x1)) (kP_8) ?_
          refine jr_iinc (q := 3) (v := (x3 + (1 : Int32))) (lv' := [(3, .int (x3 + (1 : Int32))), (0, .ref (ad 1)), (1, .int x1), (2, .int x2)]) C dEx_joinGroups_27 rfl rfl (by decide) rfl ?_
          refine jr_goto (tgt := 2) C dEx_joinGroups_30 (by decide) ?_
          refine jr_lv (lv' := [(0, .ref (ad 1)), (1, .int x1), (2, .int x2), (3, .int (x3 + (1 : Int32)))]) [1, 2, 3, 0] rfl ?_
          exact ih (jq st 8 (Int32.toNatClampNeg x3) x1) x1 x2 (x3 + (1 : Int32)) h
  obtain ⟨n4, h⟩ := h
  refine jr_lv (lv' := [(0, .ref (ad 1)), (1, .int l1), (2, .int l2), (3, .int (0 : Int32))]) [1, 2, 3, 0] rfl ?_
  exact lp3 n4 st l1 l2 (0 : Int32) h
def wp_Ex_countGroups_43 (K F : Nat) (post : Int32 → jS → Prop) (kont : jS → Int32 → Int32 → Int32 → Int32 → Prop) : Nat → jS → Int32 → Int32 → Int32 → Int32 → Prop
  | 0 => fun _ _ _ _ _ => False
  | n + 1 => fun st x1 x2 x3 x4 => (((st 1 5) ≤ x4 → kont st x1 x2 x3 x4) ∧ (¬ (st 1 5) ≤ x4 → vp_in x3 24 ∧ vp_in x4 24 ∧ (((st 8 (Int32.toNatClampNeg x3)) = (st 8 (Int32.toNatClampNeg x4)) → wp_Ex_countGroups_43 K F post kont n st x1 x2 x3 (x4 + (1 : Int32))) ∧ (¬ (st 8 (Int32.toNatClampNeg x3)) = (st 8 (Int32.toNatClampNeg x4)) → wp_Ex_sameCells K F st x3 x4 (0 : Int32) (st 1 0) (fun r4 st3 => ((r4 < x1 → wp_Ex_countGroups_43 K F post kont n st3 x1 x2 x3 (x4 + (1 : Int32))) ∧ (¬ r4 < x1 → vp_in x3 24 ∧ vp_in x4 24 ∧ wp_Ex_joinGroups K F st3 (st3 8 (Int32.toNatClampNeg x3)) (st3 8 (Int32.toNatClampNeg x4)) (fun st7 => wp_Ex_countGroups_43 K F post kont n st7 x1 (x2 + (-1 : Int32)) x3 (x4 + (1 : Int32))))))))))
def wp_Ex_countGroups_30 (K F : Nat) (post : Int32 → jS → Prop) : Nat → jS → Int32 → Int32 → Int32 → Prop
  | 0 => fun _ _ _ _ => False
  | n + 1 => fun st x1 x2 x3 => (((st 1 5) ≤ x3 → post x2 st) ∧ (¬ (st 1 5) ≤ x3 → (∃ n16, wp_Ex_countGroups_43 K F post (fun st11 y12 y13 y14 y15 => wp_Ex_countGroups_30 K F post n st11 y12 y13 (y14 + (1 : Int32))) n16 st x1 x2 x3 (x3 + (1 : Int32)))))
def wp_Ex_countGroups_2 (K F : Nat) (post : Int32 → jS → Prop) : Nat → jS → Int32 → Int32 → Prop
  | 0 => fun _ _ _ => False
  | n + 1 => fun st x1 x2 => (((st 1 5) ≤ x2 → (∃ n19, wp_Ex_countGroups_30 K F post n19 st x1 (st 1 5) (0 : Int32))) ∧ (¬ (st 1 5) ≤ x2 → vp_in x2 24 ∧ wp_Ex_countGroups_2 K F post n (jq st 8 (Int32.toNatClampNeg x2) x2) x1 (x2 + (1 : Int32))))
def wp_Ex_countGroups (K F : Nat) (st : jS) (l1 : Int32) (post : Int32 → jS → Prop) : Prop :=
  (∃ n23, wp_Ex_countGroups_2 K F post n23 st l1 (0 : Int32))
set_option maxRecDepth 100000 in
set_option maxHeartbeats 4000000 in
theorem c_Ex_countGroups {st : jS} {l1 : Int32} {post : Int32 → jS → Prop} (h : wp_Ex_countGroups K F st l1 post) : jr_Mi l yEx_countGroups wEx_countGroups ({ frames := 2, cells := 0, slots := 0, locals := 48 }) [.ref (ad 1), .int l1] D kC (kT cI cII cL cJ) (kW cI cII cL ad K F fr st) (kW cI cII cL ad K F fr) post := by
  refine jr_ofi (cc := bEx_countGroups) (nL := 5) (lv := [(0, .ref (ad 1)), (1, .int l1)]) (by decide) rfl (Nat.le_of_ble_eq_true rfl) rfl (fun p e s m args below meth c A C hr hlocks => ?_)
  unfold wp_Ex_countGroups at h
  refine jr_iconst (v := 0) C dEx_countGroups_0 (by decide) ?_
  refine jr_istore_n (lv' := [(2, .int (0 : Int32)), (0, .ref (ad 1)), (1, .int l1)]) C dEx_countGroups_1 rfl (by decide) rfl ?_
  have lp21 : ∀ (n : Nat) (st : jS) (x1 : Int32) (x2 : Int32), wp_Ex_countGroups_2 K F post n st x1 x2 → jr_J p l e (headSpec wEx_countGroups ({ frames := 2, cells := 0, slots := 0, locals := 48 })).room s m args below meth c A D kC 5 0 0 (MQ below (va_Qi post (jr_B D kC (kT cI cII cL cJ) (kW cI cII cL ad K F fr) A) A) args s 0 0 A) (kW cI cII cL ad K F fr st) 2 [(0, .ref (ad 1)), (1, .int x1), (2, .int x2)] [] := by
    intro n
    induction n with
    | zero => intro st x1 x2 h; exact h.elim
    | succ n ih =>
      intro st x1 x2 h
      unfold wp_Ex_countGroups_2 at h
      refine jr_iload_n (q := 2) C dEx_countGroups_2 rfl rfl ?_
      refine jr_aload_n (q := 0) C dEx_countGroups_3 rfl rfl ?_
      refine jr_getf (k := 5) C dEx_countGroups_4 inw_Ex (rfl : kC[1]? = _) (by decide) (List.mem_cons_of_mem _ tm1_46) rfl kA_1 rfl ?_
      refine jr_icmp_ge (tgt := 23) C dEx_countGroups_7 (by decide) (fun z => ?_) (fun z => ?_)
      · have h := h.1 z
        refine jr_aload_n (q := 0) C dEx_countGroups_23 rfl rfl ?_
        refine jr_getf (k := 5) C dEx_countGroups_24 inw_Ex (rfl : kC[1]? = _) (by decide) (List.mem_cons_of_mem _ tm1_46) rfl kA_1 rfl ?_
        refine jr_istore_n (lv' := [(2, .int (st 1 5)), (0, .ref (ad 1)), (1, .int x1)]) C dEx_countGroups_27 rfl (by decide) rfl ?_
        refine jr_iconst (v := 0) C dEx_countGroups_28 (by decide) ?_
        refine jr_istore_n (lv' := [(3, .int (0 : Int32)), (2, .int (st 1 5)), (0, .ref (ad 1)), (1, .int x1)]) C dEx_countGroups_29 rfl (by decide) rfl ?_
        have lp17 : ∀ (n : Nat) (st : jS) (x1 : Int32) (x2 : Int32) (x3 : Int32), wp_Ex_countGroups_30 K F post n st x1 x2 x3 → jr_J p l e (headSpec wEx_countGroups ({ frames := 2, cells := 0, slots := 0, locals := 48 })).room s m args below meth c A D kC 5 0 0 (MQ below (va_Qi post (jr_B D kC (kT cI cII cL cJ) (kW cI cII cL ad K F fr) A) A) args s 0 0 A) (kW cI cII cL ad K F fr st) 30 [(0, .ref (ad 1)), (1, .int x1), (2, .int x2), (3, .int x3)] [] := by
          intro n
          induction n with
          | zero => intro st x1 x2 x3 h; exact h.elim
          | succ n ih =>
            intro st x1 x2 x3 h
            unfold wp_Ex_countGroups_30 at h
            refine jr_iload_n (q := 3) C dEx_countGroups_30 rfl rfl ?_
            refine jr_aload_n (q := 0) C dEx_countGroups_31 rfl rfl ?_
            refine jr_getf (k := 5) C dEx_countGroups_32 inw_Ex (rfl : kC[1]? = _) (by decide) (List.mem_cons_of_mem _ tm1_46) rfl kA_1 rfl ?_
            refine jr_icmp_ge (tgt := 116) C dEx_countGroups_35 (by decide) (fun z => ?_) (fun z => ?_)
            · have h := h.1 z
              refine jr_iload_n (q := 2) C dEx_countGroups_116 rfl rfl ?_
              exact jr_reti C hr hlocks dEx_countGroups_117 h rfl
            · have h := h.2 z
              refine jr_iload_n (q := 3) C dEx_countGroups_38 rfl rfl ?_
              refine jr_iconst (v := 1) C dEx_countGroups_39 (by decide) ?_
              refine jr_iadd C dEx_countGroups_40 ?_
              refine jr_istore (lv' := [(4, .int (x3 + (1 : Int32))), (0, .ref (ad 1)), (1, .int x1), (2, .int x2), (3, .int x3)]) C dEx_countGroups_41 (by decide) rfl ?_
              have lp9 : ∀ (kont : jS → Int32 → Int32 → Int32 → Int32 → Prop) (hk : ∀ (st : jS) (x1 : Int32) (x2 : Int32) (x3 : Int32) (x4 : Int32), kont st x1 x2 x3 x4 → jr_J p l e (headSpec wEx_countGroups ({ frames := 2, cells := 0, slots := 0, locals := 48 })).room s m args below meth c A D kC 5 0 0 (MQ below (va_Qi post (jr_B D kC (kT cI cII cL cJ) (kW cI cII cL ad K F fr) A) A) args s 0 0 A) (kW cI cII cL ad K F fr st) 110 [(0, .ref (ad 1)), (1, .int x1), (2, .int x2), (3, .int x3), (4, .int x4)] []) (n : Nat) (st : jS) (x1 : Int32) (x2 : Int32) (x3 : Int32) (x4 : Int32), wp_Ex_countGroups_43 K F post kont n st x1 x2 x3 x4 → jr_J p l e (headSpec wEx_countGroups ({ frames := 2, cells := 0, slots := 0, locals := 48 })).room s m args below meth c A D kC 5 0 0 (MQ below (va_Qi post (jr_B D kC (kT cI cII cL cJ) (kW cI cII cL ad K F fr) A) A) args s 0 0 A) (kW cI cII cL ad K F fr st) 43 [(0, .ref (ad 1)), (1, .int x1), (2, .int x2), (3, .int x3), (4, .int x4)] [] := by
                intro kont hk n
                induction n with
                | zero => intro st x1 x2 x3 x4 h; exact h.elim
                | succ n ih =>
                  intro st x1 x2 x3 x4 h
                  unfold wp_Ex_countGroups_43 at h
                  refine jr_iload (q := 4) C dEx_countGroups_43 rfl ?_
                  refine jr_aload_n (q := 0) C dEx_countGroups_45 rfl rfl ?_
                  refine jr_getf (k := 5) C dEx_countGroups_46 inw_Ex (rfl : kC[1]? = _) (by decide) (List.mem_cons_of_mem _ tm1_46) rfl kA_1 rfl ?_
                  refine jr_icmp_ge (tgt := 110) C dEx_countGroups_49 (by decide) (fun z => ?_) (fun z => ?_)
                  · have h := h.1 z
                    refine jr_lv (lv' := [(0, .ref (ad 1)), (1, .int x1), (2, .int x2), (3, .int x3), (4, .int x4)]) [0, 1, 2, 3, 4] rfl ?_
                    exact hk st x1 x2 x3 x4 h
                  · have h := h.2 z
                    refine jr_aload_n (q := 0) C dEx_countGroups_52 rfl rfl ?_
                    refine jr_getf (k := 4) C dEx_countGroups_53 inw_Ex (rfl : kC[1]? = _) (by decide) (List.mem_cons_of_mem _ tm1_45) rfl kA_1 rfl ?_
                    refine jr_iload_n (q := 3) C dEx_countGroups_56 rfl rfl ?_
                    obtain ⟨h1, h⟩ := h
                    refine jr_iald (t0 := 0) C dEx_countGroups_57 kA_8 rfl h1 ?_
                    refine jr_aload_n (q := 0) C dEx_countGroups_58 rfl rfl ?_
                    refine jr_getf (k := 4) C dEx_countGroups_59 inw_Ex (rfl : kC[1]? = _) (by decide) (List.mem_cons_of_mem _ tm1_45) rfl kA_1 rfl ?_
                    refine jr_iload (q := 4) C dEx_countGroups_62 rfl ?_
                    obtain ⟨h2, h⟩ := h
                    refine jr_iald (t0 := 0) C dEx_countGroups_64 kA_8 rfl h2 ?_
                    refine jr_icmp_eq (tgt := 104) C dEx_countGroups_65 (by decide) (fun z => ?_) (fun z => ?_)
                    · have h := h.1 z
                      refine jr_iinc (q := 4) (v := (x4 + (1 : Int32))) (lv' := [(4, .int (x4 + (1 : Int32))), (0, .ref (ad 1)), (1, .int x1), (2, .int x2), (3, .int x3)]) C dEx_countGroups_104 rfl rfl (by decide) rfl ?_
                      refine jr_goto (tgt := 43) C dEx_countGroups_107 (by decide) ?_
                      refine jr_lv (lv' := [(0, .ref (ad 1)), (1, .int x1), (2, .int x2), (3, .int x3), (4, .int (x4 + (1 : Int32)))]) [1, 2, 3, 4, 0] rfl ?_
                      exact ih st x1 x2 x3 (x4 + (1 : Int32)) h
                    · have h := h.2 z
                      refine jr_aload_n (q := 0) C dEx_countGroups_68 rfl rfl ?_
                      refine jr_iload_n (q := 3) C dEx_countGroups_69 rfl rfl ?_
                      refine jr_iload (q := 4) C dEx_countGroups_70 rfl ?_
                      refine jr_iconst (v := 0) C dEx_countGroups_72 (by decide) ?_
                      refine jr_aload_n (q := 0) C dEx_countGroups_73 rfl rfl ?_
                      refine jr_getf (k := 0) C dEx_countGroups_74 inw_Ex (rfl : kC[1]? = _) (by decide) (List.mem_cons_of_mem _ tm1_36) rfl kA_1 rfl ?_
                      refine jr_callVi (As := [.int x3, .int x4, .int (0 : Int32), .int (st 1 0)]) (rest := []) C (c_Ex_sameCells h) (cwV 4 C.2.2.2.2.1 (tg_V tm2_221 tm1_172 tm1_173 tm1_3 tm1_174) rfl rfl rfl ⟨rfl, by decide, by decide, by decide⟩ ⟨Nat.le_of_ble_eq_true rfl, Nat.le_of_ble_eq_true rfl⟩) dEx_countGroups_77 (rfl : kC[1]? = _) kA_1 rfl rfl (Nat.le_of_ble_eq_true rfl) ⟨Nat.le_of_ble_eq_true rfl, Nat.le_of_ble_eq_true rfl⟩ (fun r4 st3 h => ?_)
                      refine jr_iload_n (q := 1) C dEx_countGroups_80 rfl rfl ?_
                      refine jr_icmp_lt (tgt := 104) C dEx_countGroups_81 (by decide) (fun z => ?_) (fun z => ?_)
                      · have h := h.1 z
                        refine jr_iinc (q := 4) (v := (x4 + (1 : Int32))) (lv' := [(4, .int (x4 + (1 : Int32))), (0, .ref (ad 1)), (1, .int x1), (2, .int x2), (3, .int x3)]) C dEx_countGroups_104 rfl rfl (by decide) rfl ?_
                        refine jr_goto (tgt := 43) C dEx_countGroups_107 (by decide) ?_
                        refine jr_lv (lv' := [(0, .ref (ad 1)), (1, .int x1), (2, .int x2), (3, .int x3), (4, .int (x4 + (1 : Int32)))]) [1, 2, 3, 4, 0] rfl ?_
                        exact ih st3 x1 x2 x3 (x4 + (1 : Int32)) h
                      · have h := h.2 z
                        refine jr_aload_n (q := 0) C dEx_countGroups_84 rfl rfl ?_
                        refine jr_aload_n (q := 0) C dEx_countGroups_85 rfl rfl ?_
                        refine jr_getf (k := 4) C dEx_countGroups_86 inw_Ex (rfl : kC[1]? = _) (by decide) (List.mem_cons_of_mem _ tm1_45) rfl kA_1 rfl ?_
                        refine jr_iload_n (q := 3) C dEx_countGroups_89 rfl rfl ?_
                        obtain ⟨h5, h⟩ := h
                        refine jr_iald (t0 := 0) C dEx_countGroups_90 kA_8 rfl h5 ?_
                        refine jr_aload_n (q := 0) C dEx_countGroups_91 rfl rfl ?_
                        refine jr_getf (k := 4) C dEx_countGroups_92 inw_Ex (rfl : kC[1]? = _) (by decide) (List.mem_cons_of_mem _ tm1_45) rfl kA_1 rfl ?_
                        refine jr_iload (q := 4) C dEx_countGroups_95 rfl ?_
                        obtain ⟨h6, h⟩ := h
                        refine jr_iald (t0 := 0) C dEx_countGroups_97 kA_8 rfl h6 ?_
                        refine jr_callVv (As := [.int (st3 8 (Int32.toNatClampNeg x3)), .int (st3 8 (Int32.toNatClampNeg x4))]) (rest := []) C (c_Ex_joinGroups h) (cwV 2 C.2.2.2.2.1 (tg_V tm2_222 tm2_224 tp_9 tm1_3 tm2_225) rfl rfl rfl ⟨rfl, by decide, by decide, by decide⟩ ⟨Nat.le_of_ble_eq_true rfl, Nat.le_of_ble_eq_true rfl⟩) dEx_countGroups_98 (rfl : kC[1]? = _) kA_1 rfl rfl (Nat.le_of_ble_eq_true rfl) ⟨Nat.le_of_ble_eq_true rfl, Nat.le_of_ble_eq_true rfl⟩ (fun st7 h => ?_)
                        refine jr_iinc (q := 2) (v := (x2 + (-1 : Int32))) (lv' := [(2, .int (x2 + (-1 : Int32))), (0, .ref (ad 1)), (1, .int x1), (3, .int x3), (4, .int x4)]) C dEx_countGroups_101 rfl rfl (by decide) rfl ?_
                        refine jr_iinc (q := 4) (v := (x4 + (1 : Int32))) (lv' := [(4, .int (x4 + (1 : Int32))), (2, .int (x2 + (-1 : Int32))), (0, .ref (ad 1)), (1, .int x1), (3, .int x3)]) C dEx_countGroups_104 rfl rfl (by decide) rfl ?_
                        refine jr_goto (tgt := 43) C dEx_countGroups_107 (by decide) ?_
                        refine jr_lv (lv' := [(0, .ref (ad 1)), (1, .int x1), (2, .int (x2 + (-1 : Int32))), (3, .int x3), (4, .int (x4 + (1 : Int32)))]) [2, 3, 1, 4, 0] rfl ?_
                        exact ih st7 x1 (x2 + (-1 : Int32)) x3 (x4 + (1 : Int32)) h
              obtain ⟨n10, h⟩ := h
              refine jr_lv (lv' := [(0, .ref (ad 1)), (1, .int x1), (2, .int x2), (3, .int x3), (4, .int (x3 + (1 : Int32)))]) [1, 2, 3, 4, 0] rfl ?_
              refine lp9 _ (fun st11 y12 y13 y14 y15 h => ?_) n10 st x1 x2 x3 (x3 + (1 : Int32)) h
              refine jr_iinc (q := 3) (v := (y14 + (1 : Int32))) (lv' := [(3, .int (y14 + (1 : Int32))), (0, .ref (ad 1)), (1, .int y12), (2, .int y13), (4, .int y15)]) C dEx_countGroups_110 rfl rfl (by decide) rfl ?_
              refine jr_goto (tgt := 30) C dEx_countGroups_113 (by decide) ?_
              refine jr_lv (lv' := [(0, .ref (ad 1)), (1, .int y12), (2, .int y13), (3, .int (y14 + (1 : Int32)))]) [1, 2, 3, 0] rfl ?_
              exact ih st11 y12 y13 (y14 + (1 : Int32)) h
        obtain ⟨n18, h⟩ := h
        refine jr_lv (lv' := [(0, .ref (ad 1)), (1, .int x1), (2, .int (st 1 5)), (3, .int (0 : Int32))]) [2, 3, 1, 0] rfl ?_
        exact lp17 n18 st x1 (st 1 5) (0 : Int32) h
      · have h := h.2 z
        refine jr_aload_n (q := 0) C dEx_countGroups_10 rfl rfl ?_
        refine jr_getf (k := 4) C dEx_countGroups_11 inw_Ex (rfl : kC[1]? = _) (by decide) (List.mem_cons_of_mem _ tm1_45) rfl kA_1 rfl ?_
        refine jr_iload_n (q := 2) C dEx_countGroups_14 rfl rfl ?_
        refine jr_iload_n (q := 2) C dEx_countGroups_15 rfl rfl ?_
        obtain ⟨h20, h⟩ := h
        refine jr_iast (t0 := 0) C dEx_countGroups_16 kA_8 rfl h20 ?_
        refine jr_ws (ws' := kW cI cII cL ad K F fr (jq st 8 (Int32.toNatClampNeg x2) x2)) (kP_8) ?_
        refine jr_iinc (q := 2) (v := (x2 + (1 : Int32))) (lv' := [(2, .int (x2 + (1 : Int32))), (0, .ref (ad 1)), (1, .int x1)]) C dEx_countGroups_17 rfl rfl (by decide) rfl ?_
        refine jr_goto (tgt := 2) C dEx_countGroups_20 (by decide) ?_
        refine jr_lv (lv' := [(0, .ref (ad 1)), (1, .int x1), (2, .int (x2 + (1 : Int32)))]) [1, 2, 0] rfl ?_
        exact ih (jq st 8 (Int32.toNatClampNeg x2) x2) x1 (x2 + (1 : Int32)) h
  obtain ⟨n22, h⟩ := h
  refine jr_lv (lv' := [(0, .ref (ad 1)), (1, .int l1), (2, .int (0 : Int32))]) [1, 2, 0] rfl ?_
  exact lp21 n22 st l1 (0 : Int32) h
def wp_Ma_floorDiv (K F : Nat) (st : jS) (l0 : Int32) (l1 : Int32) (post : Int32 → jS → Prop) : Prop :=
  (¬ l1 = 0) ∧ ((0 ≤ (l0 ^^^ l1) → post (l0 / l1) st) ∧ (¬ 0 ≤ (l0 ^^^ l1) → ((((l0 / l1) * l1) = l0 → post (l0 / l1) st) ∧ (¬ ((l0 / l1) * l1) = l0 → post ((l0 / l1) - (1 : Int32)) st))))
set_option maxRecDepth 100000 in
set_option maxHeartbeats 4000000 in
theorem c_Ma_floorDiv {st : jS} {l0 : Int32} {l1 : Int32} {post : Int32 → jS → Prop} (h : wp_Ma_floorDiv K F st l0 l1 post) : jr_Mi l yMa_floorDiv wMa_floorDiv ({ frames := 0, cells := 0, slots := 0, locals := 0 }) [.int l0, .int l1] D kC (kT cI cII cL cJ) (kW cI cII cL ad K F fr st) (kW cI cII cL ad K F fr) post := by
  refine jr_ofFi (cc := bMa_floorDiv) (nL := 3) (lv := [(0, .int l0), (1, .int l1)]) (by decide +kernel) rfl (Nat.le_of_ble_eq_true rfl) rfl (fun p e s m args below meth c A C hr hlocks => ?_)
  unfold wp_Ma_floorDiv at h
  refine jr_iload_n (q := 0) C dMa_floorDiv_0 rfl rfl ?_
  refine jr_iload_n (q := 1) C dMa_floorDiv_1 rfl rfl ?_
  obtain ⟨h1, h⟩ := h
  refine jr_idiv C dMa_floorDiv_2 h1 ?_
  refine jr_istore_n (lv' := [(2, .int (l0 / l1)), (0, .int l0), (1, .int l1)]) C dMa_floorDiv_3 rfl (by decide) rfl ?_
  refine jr_iload_n (q := 1) C dMa_floorDiv_4 rfl rfl ?_
  refine jr_iload_n (q := 2) C dMa_floorDiv_5 rfl rfl ?_
  refine jr_ixor C dMa_floorDiv_6 ?_
  refine jr_if_ge (tgt := 21) C dMa_floorDiv_7 (by decide) (fun z => ?_) (fun z => ?_)
  · have h := h.1 z
    refine jr_iload_n (q := 0) C dMa_floorDiv_21 rfl rfl ?_
    exact jr_reti C hr hlocks dMa_floorDiv_22 h rfl
  · have h := h.2 z
    refine jr_iload_n (q := 0) C dMa_floorDiv_10 rfl rfl ?_
    refine jr_iload_n (q := 2) C dMa_floorDiv_11 rfl rfl ?_
    refine jr_imul C dMa_floorDiv_12 ?_
    refine jr_iload_n (q := 1) C dMa_floorDiv_13 rfl rfl ?_
    refine jr_icmp_eq (tgt := 21) C dMa_floorDiv_14 (by decide) (fun z => ?_) (fun z => ?_)
    · have h := h.1 z
      refine jr_iload_n (q := 0) C dMa_floorDiv_21 rfl rfl ?_
      exact jr_reti C hr hlocks dMa_floorDiv_22 h rfl
    · have h := h.2 z
      refine jr_iload_n (q := 0) C dMa_floorDiv_17 rfl rfl ?_
      refine jr_iconst (v := 1) C dMa_floorDiv_18 (by decide) ?_
      refine jr_isub C dMa_floorDiv_19 ?_
      exact jr_reti C hr hlocks dMa_floorDiv_20 h rfl
end KT
end
section
section KT
variable {l : Launch} {D : va_G} {cI cII cL cJ : ClassId} {ad sa : Nat → Nat} {K F : Nat} {fr : va_W}
def wp_La_lastLength (K F : Nat) (k : Nat) (st : jS) (post : Int32 → jS → Prop) : Prop :=
  (((1 : Int32) ≤ (st (51 + 3 * k) 2) → vp_in ((st (51 + 3 * k) 2) - (1 : Int32)) 6 ∧ post (st (52 + 3 * k) (Int32.toNatClampNeg ((st (51 + 3 * k) 2) - (1 : Int32)))) st) ∧ (¬ (1 : Int32) ≤ (st (51 + 3 * k) 2) → post (0 : Int32) st))
set_option maxRecDepth 100000 in
set_option maxHeartbeats 4000000 in
theorem c_La_lastLength (k : Nat) (hk : k < K) {st : jS} {post : Int32 → jS → Prop} (h : wp_La_lastLength K F k st post) : jr_Mi l yLa_lastLength wLa_lastLength ({ frames := 0, cells := 0, slots := 0, locals := 0 }) [.ref (ad (51 + 3 * k))] D kC (kT cI cII cL cJ) (kW cI cII cL ad K F fr st) (kW cI cII cL ad K F fr) post := by
  refine jr_ofi (cc := bLa_lastLength) (nL := 1) (lv := [(0, .ref (ad (51 + 3 * k)))]) (by decide) rfl (Nat.le_of_ble_eq_true rfl) rfl (fun p e s m args below meth c A C hr hlocks => ?_)
  unfold wp_La_lastLength at h
  refine jr_aload_n (q := 0) C dLa_lastLength_0 rfl rfl ?_
  refine jr_getf (k := 2) C dLa_lastLength_1 inw_La (rfl : kC[4]? = _) (by decide) (List.mem_cons_of_mem _ tm1_123) rfl (kA_law hk) rfl ?_
  refine jr_iconst (v := 1) C dLa_lastLength_4 (by decide) ?_
  refine jr_icmp_ge (tgt := 12) C dLa_lastLength_5 (by decide) (fun z => ?_) (fun z => ?_)
  · have h := h.1 z
    refine jr_aload_n (q := 0) C dLa_lastLength_12 rfl rfl ?_
    refine jr_getf (k := 0) C dLa_lastLength_13 inw_La (rfl : kC[4]? = _) (by decide) (List.mem_cons_of_mem _ tm1_121) rfl (kA_law hk) rfl ?_
    refine jr_aload_n (q := 0) C dLa_lastLength_16 rfl rfl ?_
    refine jr_getf (k := 2) C dLa_lastLength_17 inw_La (rfl : kC[4]? = _) (by decide) (List.mem_cons_of_mem _ tm1_123) rfl (kA_law hk) rfl ?_
    refine jr_iconst (v := 1) C dLa_lastLength_20 (by decide) ?_
    refine jr_isub C dLa_lastLength_21 ?_
    obtain ⟨h1, h⟩ := h
    refine jr_iald (t0 := 0) C dLa_lastLength_22 (kA_len hk) rfl h1 ?_
    exact jr_reti C hr hlocks dLa_lastLength_23 h rfl
  · have h := h.2 z
    refine jr_iconst (v := 0) C dLa_lastLength_8 (by decide) ?_
    refine jr_goto (tgt := 23) C dLa_lastLength_9 (by decide) ?_
    exact jr_reti C hr hlocks dLa_lastLength_23 h rfl
def wp_La_add (K F : Nat) (k : Nat) (st : jS) (l1 : Int32) (l2 : Int32) (post : Int32 → jS → Prop) : Prop :=
  vp_in (st (51 + 3 * k) 2) 6 ∧ vp_in ((jq st (52 + 3 * k) (Int32.toNatClampNeg (st (51 + 3 * k) 2)) l1) (51 + 3 * k) 2) 6 ∧ post ((jq (jq (jq st (52 + 3 * k) (Int32.toNatClampNeg (st (51 + 3 * k) 2)) l1) (53 + 3 * k) (Int32.toNatClampNeg ((jq st (52 + 3 * k) (Int32.toNatClampNeg (st (51 + 3 * k) 2)) l1) (51 + 3 * k) 2)) l2) (51 + 3 * k) 2 (((jq (jq st (52 + 3 * k) (Int32.toNatClampNeg (st (51 + 3 * k) 2)) l1) (53 + 3 * k) (Int32.toNatClampNeg ((jq st (52 + 3 * k) (Int32.toNatClampNeg (st (51 + 3 * k) 2)) l1) (51 + 3 * k) 2)) l2) (51 + 3 * k) 2) + (1 : Int32))) (51 + 3 * k) 2) (jq (jq (jq st (52 + 3 * k) (Int32.toNatClampNeg (st (51 + 3 * k) 2)) l1) (53 + 3 * k) (Int32.toNatClampNeg ((jq st (52 + 3 * k) (Int32.toNatClampNeg (st (51 + 3 * k) 2)) l1) (51 + 3 * k) 2)) l2) (51 + 3 * k) 2 (((jq (jq st (52 + 3 * k) (Int32.toNatClampNeg (st (51 + 3 * k) 2)) l1) (53 + 3 * k) (Int32.toNatClampNeg ((jq st (52 + 3 * k) (Int32.toNatClampNeg (st (51 + 3 * k) 2)) l1) (51 + 3 * k) 2)) l2) (51 + 3 * k) 2) + (1 : Int32)))
set_option maxRecDepth 100000 in
set_option maxHeartbeats 4000000 in
theorem c_La_add (k : Nat) (hk : k < K) {st : jS} {l1 : Int32} {l2 : Int32} {post : Int32 → jS → Prop} (h : wp_La_add K F k st l1 l2 post) : jr_Mi l yLa_add wLa_add ({ frames := 0, cells := 0, slots := 0, locals := 0 }) [.ref (ad (51 + 3 * k)), .int l1, .int l2] D kC (kT cI cII cL cJ) (kW cI cII cL ad K F fr st) (kW cI cII cL ad K F fr) post := by
  refine jr_ofi (cc := bLa_add) (nL := 3) (lv := [(0, .ref (ad (51 + 3 * k))), (1, .int l1), (2, .int l2)]) (by decide) rfl (Nat.le_of_ble_eq_true rfl) rfl (fun p e s m args below meth c A C hr hlocks => ?_)
  unfold wp_La_add at h
  refine jr_aload_n (q := 0) C dLa_add_0 rfl rfl ?_
  refine jr_getf (k := 0) C dLa_add_1 inw_La (rfl : kC[4]? = _) (by decide) (List.mem_cons_of_mem _ tm1_121) rfl (kA_law hk) rfl ?_
  refine jr_aload_n (q := 0) C dLa_add_4 rfl rfl ?_
  refine jr_getf (k := 2) C dLa_add_5 inw_La (rfl : kC[4]? = _) (by decide) (List.mem_cons_of_mem _ tm1_123) rfl (kA_law hk) rfl ?_
  refine jr_iload_n (q := 1) C dLa_add_8 rfl rfl ?_
  obtain ⟨h1, h⟩ := h
  refine jr_iast (t0 := 0) C dLa_add_9 (kA_len hk) rfl h1 ?_
  refine jr_ws (ws' := kW cI cII cL ad K F fr (jq st (52 + 3 * k) (Int32.toNatClampNeg (st (51 + 3 * k) 2)) l1)) (kP_len hk) ?_
  refine jr_aload_n (q := 0) C dLa_add_10 rfl rfl ?_
  refine jr_getf (k := 1) C dLa_add_11 inw_La (rfl : kC[4]? = _) (by decide) (List.mem_cons_of_mem _ tm1_122) rfl (kA_law hk) rfl ?_
  refine jr_aload_n (q := 0) C dLa_add_14 rfl rfl ?_
  refine jr_getf (k := 2) C dLa_add_15 inw_La (rfl : kC[4]? = _) (by decide) (List.mem_cons_of_mem _ tm1_123) rfl (kA_law hk) rfl ?_
  refine jr_iload_n (q := 2) C dLa_add_18 rfl rfl ?_
  obtain ⟨h2, h⟩ := h
  refine jr_iast (t0 := 0) C dLa_add_19 (kA_str hk) rfl h2 ?_
  refine jr_ws (ws' := kW cI cII cL ad K F fr (jq (jq st (52 + 3 * k) (Int32.toNatClampNeg (st (51 + 3 * k) 2)) l1) (53 + 3 * k) (Int32.toNatClampNeg ((jq st (52 + 3 * k) (Int32.toNatClampNeg (st (51 + 3 * k) 2)) l1) (51 + 3 * k) 2)) l2)) (kP_str hk) ?_
  refine jr_aload_n (q := 0) C dLa_add_20 rfl rfl ?_
  refine jr_dup C dLa_add_21 rfl ?_
  refine jr_getf (k := 2) C dLa_add_22 inw_La (rfl : kC[4]? = _) (by decide) (List.mem_cons_of_mem _ tm1_123) rfl (kA_law hk) rfl ?_
  refine jr_iconst (v := 1) C dLa_add_25 (by decide) ?_
  refine jr_iadd C dLa_add_26 ?_
  refine jr_putf (k := 2) C dLa_add_27 inw_La ty_La ty_La_ok nm_La (rfl : kC[4]? = _) (by decide) (List.mem_cons_of_mem _ tm1_123) rfl rfl (ty := .int) rfl rfl rfl (kA_law hk) (Nat.le_of_ble_eq_true rfl) ?_
  refine jr_ws (ws' := kW cI cII cL ad K F fr (jq (jq (jq st (52 + 3 * k) (Int32.toNatClampNeg (st (51 + 3 * k) 2)) l1) (53 + 3 * k) (Int32.toNatClampNeg ((jq st (52 + 3 * k) (Int32.toNatClampNeg (st (51 + 3 * k) 2)) l1) (51 + 3 * k) 2)) l2) (51 + 3 * k) 2 (((jq (jq st (52 + 3 * k) (Int32.toNatClampNeg (st (51 + 3 * k) 2)) l1) (53 + 3 * k) (Int32.toNatClampNeg ((jq st (52 + 3 * k) (Int32.toNatClampNeg (st (51 + 3 * k) 2)) l1) (51 + 3 * k) 2)) l2) (51 + 3 * k) 2) + (1 : Int32)))) (kP_law hk) ?_
  refine jr_aload_n (q := 0) C dLa_add_30 rfl rfl ?_
  refine jr_getf (k := 2) C dLa_add_31 inw_La (rfl : kC[4]? = _) (by decide) (List.mem_cons_of_mem _ tm1_123) rfl (kA_law hk) rfl ?_
  exact jr_reti C hr hlocks dLa_add_34 h rfl
def wp_La_strengthBefore (K F : Nat) (k : Nat) (st : jS) (l1 : Int32) (l2 : Int32) (post : Int32 → jS → Prop) : Prop :=
  vp_in l1 6 ∧ vp_in (l1 - (1 : Int32)) 6 ∧ vp_in l1 6 ∧ vp_in (l1 - (1 : Int32)) 6 ∧ vp_in (l1 - (1 : Int32)) 6 ∧ vp_in (l1 - (1 : Int32)) 6 ∧ wp_Ma_floorDiv K F st (((st (53 + 3 * k) (Int32.toNatClampNeg l1)) - (st (53 + 3 * k) (Int32.toNatClampNeg (l1 - (1 : Int32))))) * (l2 - (st (52 + 3 * k) (Int32.toNatClampNeg (l1 - (1 : Int32)))))) ((st (52 + 3 * k) (Int32.toNatClampNeg l1)) - (st (52 + 3 * k) (Int32.toNatClampNeg (l1 - (1 : Int32))))) (fun r8 st7 => post ((st (53 + 3 * k) (Int32.toNatClampNeg (l1 - (1 : Int32)))) + r8) st7)
set_option maxRecDepth 100000 in
set_option maxHeartbeats 4000000 in
theorem c_La_strengthBefore (k : Nat) (hk : k < K) {st : jS} {l1 : Int32} {l2 : Int32} {post : Int32 → jS → Prop} (h : wp_La_strengthBefore K F k st l1 l2 post) : jr_Mi l yLa_strengthBefore wLa_strengthBefore ({ frames := 1, cells := 0, slots := 0, locals := 22 }) [.ref (ad (51 + 3 * k)), .int l1, .int l2] D kC (kT cI cII cL cJ) (kW cI cII cL ad K F fr st) (kW cI cII cL ad K F fr) post := by
  refine jr_ofi (cc := bLa_strengthBefore) (nL := 5) (lv := [(0, .ref (ad (51 + 3 * k))), (1, .int l1), (2, .int l2)]) (by decide) rfl (Nat.le_of_ble_eq_true rfl) rfl (fun p e s m args below meth c A C hr hlocks => ?_)
  unfold wp_La_strengthBefore at h
  refine jr_aload_n (q := 0) C dLa_strengthBefore_0 rfl rfl ?_
  refine jr_getf (k := 1) C dLa_strengthBefore_1 inw_La (rfl : kC[4]? = _) (by decide) (List.mem_cons_of_mem _ tm1_122) rfl (kA_law hk) rfl ?_
  refine jr_iload_n (q := 1) C dLa_strengthBefore_4 rfl rfl ?_
  obtain ⟨h1, h⟩ := h
  refine jr_iald (t0 := 0) C dLa_strengthBefore_5 (kA_str hk) rfl h1 ?_
  refine jr_aload_n (q := 0) C dLa_strengthBefore_6 rfl rfl ?_
  refine jr_getf (k := 1) C dLa_strengthBefore_7 inw_La (rfl : kC[4]? = _) (by decide) (List.mem_cons_of_mem _ tm1_122) rfl (kA_law hk) rfl ?_
  refine jr_iload_n (q := 1) C dLa_strengthBefore_10 rfl rfl ?_
  refine jr_iconst (v := 1) C dLa_strengthBefore_11 (by decide) ?_
  refine jr_isub C dLa_strengthBefore_12 ?_
  obtain ⟨h2, h⟩ := h
  refine jr_iald (t0 := 0) C dLa_strengthBefore_13 (kA_str hk) rfl h2 ?_
  refine jr_isub C dLa_strengthBefore_14 ?_
  refine jr_istore_n (lv' := [(3, .int ((st (53 + 3 * k) (Int32.toNatClampNeg l1)) - (st (53 + 3 * k) (Int32.toNatClampNeg (l1 - (1 : Int32)))))), (0, .ref (ad (51 + 3 * k))), (1, .int l1), (2, .int l2)]) C dLa_strengthBefore_15 rfl (by decide) rfl ?_
  refine jr_aload_n (q := 1) C dLa_strengthBefore_16 rfl rfl ?_
  refine jr_getf (k := 0) C dLa_strengthBefore_17 inw_La (rfl : kC[4]? = _) (by decide) (List.mem_cons_of_mem _ tm1_121) rfl (kA_law hk) rfl ?_
  refine jr_iload_n (q := 2) C dLa_strengthBefore_20 rfl rfl ?_
  obtain ⟨h3, h⟩ := h
  refine jr_iald (t0 := 0) C dLa_strengthBefore_21 (kA_len hk) rfl h3 ?_
  refine jr_aload_n (q := 1) C dLa_strengthBefore_22 rfl rfl ?_
  refine jr_getf (k := 0) C dLa_strengthBefore_23 inw_La (rfl : kC[4]? = _) (by decide) (List.mem_cons_of_mem _ tm1_121) rfl (kA_law hk) rfl ?_
  refine jr_iload_n (q := 2) C dLa_strengthBefore_26 rfl rfl ?_
  refine jr_iconst (v := 1) C dLa_strengthBefore_27 (by decide) ?_
  refine jr_isub C dLa_strengthBefore_28 ?_
  obtain ⟨h4, h⟩ := h
  refine jr_iald (t0 := 0) C dLa_strengthBefore_29 (kA_len hk) rfl h4 ?_
  refine jr_isub C dLa_strengthBefore_30 ?_
  refine jr_istore (lv' := [(4, .int ((st (52 + 3 * k) (Int32.toNatClampNeg l1)) - (st (52 + 3 * k) (Int32.toNatClampNeg (l1 - (1 : Int32)))))), (3, .int ((st (53 + 3 * k) (Int32.toNatClampNeg l1)) - (st (53 + 3 * k) (Int32.toNatClampNeg (l1 - (1 : Int32)))))), (0, .ref (ad (51 + 3 * k))), (1, .int l1), (2, .int l2)]) C dLa_strengthBefore_31 (by decide) rfl ?_
  refine jr_aload_n (q := 2) C dLa_strengthBefore_33 rfl rfl ?_
  refine jr_getf (k := 1) C dLa_strengthBefore_34 inw_La (rfl : kC[4]? = _) (by decide) (List.mem_cons_of_mem _ tm1_122) rfl (kA_law hk) rfl ?_
  refine jr_iload_n (q := 3) C dLa_strengthBefore_37 rfl rfl ?_
  refine jr_iconst (v := 1) C dLa_strengthBefore_38 (by decide) ?_
  refine jr_isub C dLa_strengthBefore_39 ?_
  obtain ⟨h5, h⟩ := h
  refine jr_iald (t0 := 0) C dLa_strengthBefore_40 (kA_str hk) rfl h5 ?_
  refine jr_iload_n (q := 1) C dLa_strengthBefore_41 rfl rfl ?_
  refine jr_iload_n (q := 4) C dLa_strengthBefore_42 rfl rfl ?_
  refine jr_aload_n (q := 2) C dLa_strengthBefore_43 rfl rfl ?_
  refine jr_getf (k := 0) C dLa_strengthBefore_44 inw_La (rfl : kC[4]? = _) (by decide) (List.mem_cons_of_mem _ tm1_121) rfl (kA_law hk) rfl ?_
  refine jr_iload_n (q := 3) C dLa_strengthBefore_47 rfl rfl ?_
  refine jr_iconst (v := 1) C dLa_strengthBefore_48 (by decide) ?_
  refine jr_isub C dLa_strengthBefore_49 ?_
  obtain ⟨h6, h⟩ := h
  refine jr_iald (t0 := 0) C dLa_strengthBefore_50 (kA_len hk) rfl h6 ?_
  refine jr_isub C dLa_strengthBefore_51 ?_
  refine jr_imul C dLa_strengthBefore_52 ?_
  refine jr_iload (q := 0) C dLa_strengthBefore_53 rfl ?_
  refine jr_callSi (As := [.int (((st (53 + 3 * k) (Int32.toNatClampNeg l1)) - (st (53 + 3 * k) (Int32.toNatClampNeg (l1 - (1 : Int32))))) * (l2 - (st (52 + 3 * k) (Int32.toNatClampNeg (l1 - (1 : Int32)))))), .int ((st (52 + 3 * k) (Int32.toNatClampNeg l1)) - (st (52 + 3 * k) (Int32.toNatClampNeg (l1 - (1 : Int32)))))]) (rest := [.int (st (53 + 3 * k) (Int32.toNatClampNeg (l1 - (1 : Int32))))]) C (c_Ma_floorDiv h) (va_cwS 2 C.2.2.2.2.1 (tg_S tm3_105 tm3_106 tm1_2 tm3_107) rfl rfl rfl ⟨by decide, by decide, by decide⟩ ⟨Nat.le_of_ble_eq_true rfl, Nat.le_of_ble_eq_true rfl⟩) dLa_strengthBefore_55 rfl rfl (Nat.le_of_ble_eq_true rfl) ⟨Nat.le_of_ble_eq_true rfl, Nat.le_of_ble_eq_true rfl⟩ (fun r8 st7 h => ?_)
  refine jr_iadd C dLa_strengthBefore_58 ?_
  exact jr_reti C hr hlocks dLa_strengthBefore_59 h rfl
def wp_La_strengthAt_2 (K F : Nat) (k : Nat) (post : Int32 → jS → Prop) : Nat → jS → Int32 → Int32 → Prop
  | 0 => fun _ _ _ => False
  | n + 1 => fun st x1 x2 => (((st (51 + 3 * k) 2) ≤ x2 → post (-1 : Int32) st) ∧ (¬ (st (51 + 3 * k) 2) ≤ x2 → vp_in x2 6 ∧ ((¬ x1 = (st (52 + 3 * k) (Int32.toNatClampNeg x2)) → vp_in x2 6 ∧ (((st (52 + 3 * k) (Int32.toNatClampNeg x2)) ≤ x1 → wp_La_strengthAt_2 K F k post n st x1 (x2 + (1 : Int32))) ∧ (¬ (st (52 + 3 * k) (Int32.toNatClampNeg x2)) ≤ x1 → (((1 : Int32) ≤ x2 → wp_La_strengthBefore K F k st x2 x1 (fun r4 st3 => post r4 st3)) ∧ (¬ (1 : Int32) ≤ x2 → post (-1 : Int32) st))))) ∧ (x1 = (st (52 + 3 * k) (Int32.toNatClampNeg x2)) → vp_in x2 6 ∧ post (st (53 + 3 * k) (Int32.toNatClampNeg x2)) st))))
def wp_La_strengthAt (K F : Nat) (k : Nat) (st : jS) (l1 : Int32) (post : Int32 → jS → Prop) : Prop :=
  (∃ n8, wp_La_strengthAt_2 K F k post n8 st l1 (0 : Int32))
set_option maxRecDepth 100000 in
set_option maxHeartbeats 4000000 in
theorem c_La_strengthAt (k : Nat) (hk : k < K) {st : jS} {l1 : Int32} {post : Int32 → jS → Prop} (h : wp_La_strengthAt K F k st l1 post) : jr_Mi l yLa_strengthAt wLa_strengthAt ({ frames := 2, cells := 0, slots := 0, locals := 46 }) [.ref (ad (51 + 3 * k)), .int l1] D kC (kT cI cII cL cJ) (kW cI cII cL ad K F fr st) (kW cI cII cL ad K F fr) post := by
  refine jr_ofi (cc := bLa_strengthAt) (nL := 3) (lv := [(0, .ref (ad (51 + 3 * k))), (1, .int l1)]) (by decide) rfl (Nat.le_of_ble_eq_true rfl) rfl (fun p e s m args below meth c A C hr hlocks => ?_)
  unfold wp_La_strengthAt at h
  refine jr_iconst (v := 0) C dLa_strengthAt_0 (by decide) ?_
  refine jr_istore_n (lv' := [(2, .int (0 : Int32)), (0, .ref (ad (51 + 3 * k))), (1, .int l1)]) C dLa_strengthAt_1 rfl (by decide) rfl ?_
  have lp6 : ∀ (n : Nat) (st : jS) (x1 : Int32) (x2 : Int32), wp_La_strengthAt_2 K F k post n st x1 x2 → jr_J p l e (headSpec wLa_strengthAt ({ frames := 2, cells := 0, slots := 0, locals := 46 })).room s m args below meth c A D kC 3 0 0 (MQ below (va_Qi post (jr_B D kC (kT cI cII cL cJ) (kW cI cII cL ad K F fr) A) A) args s 0 0 A) (kW cI cII cL ad K F fr st) 2 [(0, .ref (ad (51 + 3 * k))), (1, .int x1), (2, .int x2)] [] := by
    intro n
    induction n with
    | zero => intro st x1 x2 h; exact h.elim
    | succ n ih =>
      intro st x1 x2 h
      unfold wp_La_strengthAt_2 at h
      refine jr_iload_n (q := 2) C dLa_strengthAt_2 rfl rfl ?_
      refine jr_aload_n (q := 0) C dLa_strengthAt_3 rfl rfl ?_
      refine jr_getf (k := 2) C dLa_strengthAt_4 inw_La (rfl : kC[4]? = _) (by decide) (List.mem_cons_of_mem _ tm1_123) rfl (kA_law hk) rfl ?_
      refine jr_icmp_ge (tgt := 59) C dLa_strengthAt_7 (by decide) (fun z => ?_) (fun z => ?_)
      · have h := h.1 z
        refine jr_iconst (v := -1) C dLa_strengthAt_59 (by decide) ?_
        exact jr_reti C hr hlocks dLa_strengthAt_60 h rfl
      · have h := h.2 z
        refine jr_iload_n (q := 1) C dLa_strengthAt_10 rfl rfl ?_
        refine jr_aload_n (q := 0) C dLa_strengthAt_11 rfl rfl ?_
        refine jr_getf (k := 0) C dLa_strengthAt_12 inw_La (rfl : kC[4]? = _) (by decide) (List.mem_cons_of_mem _ tm1_121) rfl (kA_law hk) rfl ?_
        refine jr_iload_n (q := 2) C dLa_strengthAt_15 rfl rfl ?_
        obtain ⟨h1, h⟩ := h
        refine jr_iald (t0 := 0) C dLa_strengthAt_16 (kA_len hk) rfl h1 ?_
        refine jr_icmp_ne (tgt := 27) C dLa_strengthAt_17 (by decide) (fun z => ?_) (fun z => ?_)
        · have h := h.1 z
          refine jr_iload_n (q := 1) C dLa_strengthAt_27 rfl rfl ?_
          refine jr_aload_n (q := 0) C dLa_strengthAt_28 rfl rfl ?_
          refine jr_getf (k := 0) C dLa_strengthAt_29 inw_La (rfl : kC[4]? = _) (by decide) (List.mem_cons_of_mem _ tm1_121) rfl (kA_law hk) rfl ?_
          refine jr_iload_n (q := 2) C dLa_strengthAt_32 rfl rfl ?_
          obtain ⟨h2, h⟩ := h
          refine jr_iald (t0 := 0) C dLa_strengthAt_33 (kA_len hk) rfl h2 ?_
          refine jr_icmp_ge (tgt := 53) C dLa_strengthAt_34 (by decide) (fun z => ?_) (fun z => ?_)
          · have h := h.1 z
            refine jr_iinc (q := 2) (v := (x2 + (1 : Int32))) (lv' := [(2, .int (x2 + (1 : Int32))), (0, .ref (ad (51 + 3 * k))), (1, .int x1)]) C dLa_strengthAt_53 rfl rfl (by decide) rfl ?_
            refine jr_goto (tgt := 2) C dLa_strengthAt_56 (by decide) ?_
            refine jr_lv (lv' := [(0, .ref (ad (51 + 3 * k))), (1, .int x1), (2, .int (x2 + (1 : Int32)))]) [1, 2, 0] rfl ?_
            exact ih st x1 (x2 + (1 : Int32)) h
          · have h := h.2 z
            refine jr_iload_n (q := 2) C dLa_strengthAt_37 rfl rfl ?_
            refine jr_iconst (v := 1) C dLa_strengthAt_38 (by decide) ?_
            refine jr_icmp_ge (tgt := 46) C dLa_strengthAt_39 (by decide) (fun z => ?_) (fun z => ?_)
            · have h := h.1 z
              refine jr_aload_n (q := 0) C dLa_strengthAt_46 rfl rfl ?_
              refine jr_iload_n (q := 2) C dLa_strengthAt_47 rfl rfl ?_
              refine jr_iload_n (q := 1) C dLa_strengthAt_48 rfl rfl ?_
              refine jr_callVi (As := [.int x2, .int x1]) (rest := []) C (c_La_strengthBefore k hk h) (cwV 2 C.2.2.2.2.1 (tg_V tm3_101 tm3_103 tp_16 tm1_6 tm3_104) rfl rfl rfl ⟨rfl, by decide, by decide, by decide⟩ ⟨Nat.le_of_ble_eq_true rfl, Nat.le_of_ble_eq_true rfl⟩) dLa_strengthAt_49 (rfl : kC[4]? = _) (kA_law hk) rfl rfl (Nat.le_of_ble_eq_true rfl) ⟨Nat.le_of_ble_eq_true rfl, Nat.le_of_ble_eq_true rfl⟩ (fun r4 st3 h => ?_)
              exact jr_reti C hr hlocks dLa_strengthAt_52 h rfl
            · have h := h.2 z
              refine jr_iconst (v := -1) C dLa_strengthAt_42 (by decide) ?_
              refine jr_goto (tgt := 52) C dLa_strengthAt_43 (by decide) ?_
              exact jr_reti C hr hlocks dLa_strengthAt_52 h rfl
        · have h := h.2 z
          refine jr_aload_n (q := 0) C dLa_strengthAt_20 rfl rfl ?_
          refine jr_getf (k := 1) C dLa_strengthAt_21 inw_La (rfl : kC[4]? = _) (by decide) (List.mem_cons_of_mem _ tm1_122) rfl (kA_law hk) rfl ?_
          refine jr_iload_n (q := 2) C dLa_strengthAt_24 rfl rfl ?_
          obtain ⟨h5, h⟩ := h
          refine jr_iald (t0 := 0) C dLa_strengthAt_25 (kA_str hk) rfl h5 ?_
          exact jr_reti C hr hlocks dLa_strengthAt_26 h rfl
  obtain ⟨n7, h⟩ := h
  refine jr_lv (lv' := [(0, .ref (ad (51 + 3 * k))), (1, .int l1), (2, .int (0 : Int32))]) [1, 2, 0] rfl ?_
  exact lp6 n7 st l1 (0 : Int32) h
def wp_La_leastLengthBefore (K F : Nat) (k : Nat) (st : jS) (l1 : Int32) (l2 : Int32) (post : Int32 → jS → Prop) : Prop :=
  vp_in l1 6 ∧ vp_in (l1 - (1 : Int32)) 6 ∧ vp_in l1 6 ∧ vp_in (l1 - (1 : Int32)) 6 ∧ vp_in (l1 - (1 : Int32)) 6 ∧ vp_in (l1 - (1 : Int32)) 6 ∧ (¬ ((st (53 + 3 * k) (Int32.toNatClampNeg l1)) - (st (53 + 3 * k) (Int32.toNatClampNeg (l1 - (1 : Int32))))) = 0) ∧ post ((st (52 + 3 * k) (Int32.toNatClampNeg (l1 - (1 : Int32)))) + (((((l2 - (st (53 + 3 * k) (Int32.toNatClampNeg (l1 - (1 : Int32))))) * ((st (52 + 3 * k) (Int32.toNatClampNeg l1)) - (st (52 + 3 * k) (Int32.toNatClampNeg (l1 - (1 : Int32)))))) + ((st (53 + 3 * k) (Int32.toNatClampNeg l1)) - (st (53 + 3 * k) (Int32.toNatClampNeg (l1 - (1 : Int32)))))) - (1 : Int32)) / ((st (53 + 3 * k) (Int32.toNatClampNeg l1)) - (st (53 + 3 * k) (Int32.toNatClampNeg (l1 - (1 : Int32))))))) st
set_option maxRecDepth 100000 in
set_option maxHeartbeats 4000000 in
theorem c_La_leastLengthBefore (k : Nat) (hk : k < K) {st : jS} {l1 : Int32} {l2 : Int32} {post : Int32 → jS → Prop} (h : wp_La_leastLengthBefore K F k st l1 l2 post) : jr_Mi l yLa_leastLengthBefore wLa_leastLengthBefore ({ frames := 0, cells := 0, slots := 0, locals := 0 }) [.ref (ad (51 + 3 * k)), .int l1, .int l2] D kC (kT cI cII cL cJ) (kW cI cII cL ad K F fr st) (kW cI cII cL ad K F fr) post := by
  refine jr_ofi (cc := bLa_leastLengthBefore) (nL := 6) (lv := [(0, .ref (ad (51 + 3 * k))), (1, .int l1), (2, .int l2)]) (by decide) rfl (Nat.le_of_ble_eq_true rfl) rfl (fun p e s m args below meth c A C hr hlocks => ?_)
  unfold wp_La_leastLengthBefore at h
  refine jr_aload_n (q := 0) C dLa_leastLengthBefore_0 rfl rfl ?_
  refine jr_getf (k := 1) C dLa_leastLengthBefore_1 inw_La (rfl : kC[4]? = _) (by decide) (List.mem_cons_of_mem _ tm1_122) rfl (kA_law hk) rfl ?_
  refine jr_iload_n (q := 1) C dLa_leastLengthBefore_4 rfl rfl ?_
  obtain ⟨h1, h⟩ := h
  refine jr_iald (t0 := 0) C dLa_leastLengthBefore_5 (kA_str hk) rfl h1 ?_
  refine jr_aload_n (q := 0) C dLa_leastLengthBefore_6 rfl rfl ?_
  refine jr_getf (k := 1) C dLa_leastLengthBefore_7 inw_La (rfl : kC[4]? = _) (by decide) (List.mem_cons_of_mem _ tm1_122) rfl (kA_law hk) rfl ?_
  refine jr_iload_n (q := 1) C dLa_leastLengthBefore_10 rfl rfl ?_
  refine jr_iconst (v := 1) C dLa_leastLengthBefore_11 (by decide) ?_
  refine jr_isub C dLa_leastLengthBefore_12 ?_
  obtain ⟨h2, h⟩ := h
  refine jr_iald (t0 := 0) C dLa_leastLengthBefore_13 (kA_str hk) rfl h2 ?_
  refine jr_isub C dLa_leastLengthBefore_14 ?_
  refine jr_istore_n (lv' := [(3, .int ((st (53 + 3 * k) (Int32.toNatClampNeg l1)) - (st (53 + 3 * k) (Int32.toNatClampNeg (l1 - (1 : Int32)))))), (0, .ref (ad (51 + 3 * k))), (1, .int l1), (2, .int l2)]) C dLa_leastLengthBefore_15 rfl (by decide) rfl ?_
  refine jr_aload_n (q := 1) C dLa_leastLengthBefore_16 rfl rfl ?_
  refine jr_getf (k := 0) C dLa_leastLengthBefore_17 inw_La (rfl : kC[4]? = _) (by decide) (List.mem_cons_of_mem _ tm1_121) rfl (kA_law hk) rfl ?_
  refine jr_iload_n (q := 2) C dLa_leastLengthBefore_20 rfl rfl ?_
  obtain ⟨h3, h⟩ := h
  refine jr_iald (t0 := 0) C dLa_leastLengthBefore_21 (kA_len hk) rfl h3 ?_
  refine jr_aload_n (q := 1) C dLa_leastLengthBefore_22 rfl rfl ?_
  refine jr_getf (k := 0) C dLa_leastLengthBefore_23 inw_La (rfl : kC[4]? = _) (by decide) (List.mem_cons_of_mem _ tm1_121) rfl (kA_law hk) rfl ?_
  refine jr_iload_n (q := 2) C dLa_leastLengthBefore_26 rfl rfl ?_
  refine jr_iconst (v := 1) C dLa_leastLengthBefore_27 (by decide) ?_
  refine jr_isub C dLa_leastLengthBefore_28 ?_
  obtain ⟨h4, h⟩ := h
  refine jr_iald (t0 := 0) C dLa_leastLengthBefore_29 (kA_len hk) rfl h4 ?_
  refine jr_isub C dLa_leastLengthBefore_30 ?_
  refine jr_istore (lv' := [(4, .int ((st (52 + 3 * k) (Int32.toNatClampNeg l1)) - (st (52 + 3 * k) (Int32.toNatClampNeg (l1 - (1 : Int32)))))), (3, .int ((st (53 + 3 * k) (Int32.toNatClampNeg l1)) - (st (53 + 3 * k) (Int32.toNatClampNeg (l1 - (1 : Int32)))))), (0, .ref (ad (51 + 3 * k))), (1, .int l1), (2, .int l2)]) C dLa_leastLengthBefore_31 (by decide) rfl ?_
  refine jr_iload_n (q := 4) C dLa_leastLengthBefore_33 rfl rfl ?_
  refine jr_aload_n (q := 2) C dLa_leastLengthBefore_34 rfl rfl ?_
  refine jr_getf (k := 1) C dLa_leastLengthBefore_35 inw_La (rfl : kC[4]? = _) (by decide) (List.mem_cons_of_mem _ tm1_122) rfl (kA_law hk) rfl ?_
  refine jr_iload_n (q := 3) C dLa_leastLengthBefore_38 rfl rfl ?_
  refine jr_iconst (v := 1) C dLa_leastLengthBefore_39 (by decide) ?_
  refine jr_isub C dLa_leastLengthBefore_40 ?_
  obtain ⟨h5, h⟩ := h
  refine jr_iald (t0 := 0) C dLa_leastLengthBefore_41 (kA_str hk) rfl h5 ?_
  refine jr_isub C dLa_leastLengthBefore_42 ?_
  refine jr_iload (q := 0) C dLa_leastLengthBefore_43 rfl ?_
  refine jr_imul C dLa_leastLengthBefore_45 ?_
  refine jr_istore (lv' := [(5, .int ((l2 - (st (53 + 3 * k) (Int32.toNatClampNeg (l1 - (1 : Int32))))) * ((st (52 + 3 * k) (Int32.toNatClampNeg l1)) - (st (52 + 3 * k) (Int32.toNatClampNeg (l1 - (1 : Int32))))))), (4, .int ((st (52 + 3 * k) (Int32.toNatClampNeg l1)) - (st (52 + 3 * k) (Int32.toNatClampNeg (l1 - (1 : Int32)))))), (3, .int ((st (53 + 3 * k) (Int32.toNatClampNeg l1)) - (st (53 + 3 * k) (Int32.toNatClampNeg (l1 - (1 : Int32)))))), (0, .ref (ad (51 + 3 * k))), (1, .int l1), (2, .int l2)]) C dLa_leastLengthBefore_46 (by decide) rfl ?_
  refine jr_aload_n (q := 3) C dLa_leastLengthBefore_48 rfl rfl ?_
  refine jr_getf (k := 0) C dLa_leastLengthBefore_49 inw_La (rfl : kC[4]? = _) (by decide) (List.mem_cons_of_mem _ tm1_121) rfl (kA_law hk) rfl ?_
  refine jr_iload_n (q := 4) C dLa_leastLengthBefore_52 rfl rfl ?_
  refine jr_iconst (v := 1) C dLa_leastLengthBefore_53 (by decide) ?_
  refine jr_isub C dLa_leastLengthBefore_54 ?_
  obtain ⟨h6, h⟩ := h
  refine jr_iald (t0 := 0) C dLa_leastLengthBefore_55 (kA_len hk) rfl h6 ?_
  refine jr_iload (q := 0) C dLa_leastLengthBefore_56 rfl ?_
  refine jr_iload_n (q := 2) C dLa_leastLengthBefore_58 rfl rfl ?_
  refine jr_iadd C dLa_leastLengthBefore_59 ?_
  refine jr_iconst (v := 1) C dLa_leastLengthBefore_60 (by decide) ?_
  refine jr_isub C dLa_leastLengthBefore_61 ?_
  refine jr_iload_n (q := 2) C dLa_leastLengthBefore_62 rfl rfl ?_
  obtain ⟨h7, h⟩ := h
  refine jr_idiv C dLa_leastLengthBefore_63 h7 ?_
  refine jr_iadd C dLa_leastLengthBefore_64 ?_
  exact jr_reti C hr hlocks dLa_leastLengthBefore_65 h rfl
def wp_La_leastLength_2 (K F : Nat) (k : Nat) (post : Int32 → jS → Prop) : Nat → jS → Int32 → Int32 → Prop
  | 0 => fun _ _ _ => False
  | n + 1 => fun st x1 x2 => (((st (51 + 3 * k) 2) ≤ x2 → post (-1 : Int32) st) ∧ (¬ (st (51 + 3 * k) 2) ≤ x2 → vp_in x2 6 ∧ (((st (53 + 3 * k) (Int32.toNatClampNeg x2)) < x1 → wp_La_leastLength_2 K F k post n st x1 (x2 + (1 : Int32))) ∧ (¬ (st (53 + 3 * k) (Int32.toNatClampNeg x2)) < x1 → (((1 : Int32) ≤ x2 → wp_La_leastLengthBefore K F k st x2 x1 (fun r3 st2 => post r3 st2)) ∧ (¬ (1 : Int32) ≤ x2 → vp_in x2 6 ∧ post (st (52 + 3 * k) (Int32.toNatClampNeg x2)) st))))))
def wp_La_leastLength (K F : Nat) (k : Nat) (st : jS) (l1 : Int32) (post : Int32 → jS → Prop) : Prop :=
  (∃ n7, wp_La_leastLength_2 K F k post n7 st l1 (0 : Int32))
set_option maxRecDepth 100000 in
set_option maxHeartbeats 4000000 in
theorem c_La_leastLength (k : Nat) (hk : k < K) {st : jS} {l1 : Int32} {post : Int32 → jS → Prop} (h : wp_La_leastLength K F k st l1 post) : jr_Mi l yLa_leastLength wLa_leastLength ({ frames := 1, cells := 0, slots := 0, locals := 25 }) [.ref (ad (51 + 3 * k)), .int l1] D kC (kT cI cII cL cJ) (kW cI cII cL ad K F fr st) (kW cI cII cL ad K F fr) post := by
  refine jr_ofi (cc := bLa_leastLength) (nL := 3) (lv := [(0, .ref (ad (51 + 3 * k))), (1, .int l1)]) (by decide) rfl (Nat.le_of_ble_eq_true rfl) rfl (fun p e s m args below meth c A C hr hlocks => ?_)
  unfold wp_La_leastLength at h
  refine jr_iconst (v := 0) C dLa_leastLength_0 (by decide) ?_
  refine jr_istore_n (lv' := [(2, .int (0 : Int32)), (0, .ref (ad (51 + 3 * k))), (1, .int l1)]) C dLa_leastLength_1 rfl (by decide) rfl ?_
  have lp5 : ∀ (n : Nat) (st : jS) (x1 : Int32) (x2 : Int32), wp_La_leastLength_2 K F k post n st x1 x2 → jr_J p l e (headSpec wLa_leastLength ({ frames := 1, cells := 0, slots := 0, locals := 25 })).room s m args below meth c A D kC 3 0 0 (MQ below (va_Qi post (jr_B D kC (kT cI cII cL cJ) (kW cI cII cL ad K F fr) A) A) args s 0 0 A) (kW cI cII cL ad K F fr st) 2 [(0, .ref (ad (51 + 3 * k))), (1, .int x1), (2, .int x2)] [] := by
    intro n
    induction n with
    | zero => intro st x1 x2 h; exact h.elim
    | succ n ih =>
      intro st x1 x2 h
      unfold wp_La_leastLength_2 at h
      refine jr_iload_n (q := 2) C dLa_leastLength_2 rfl rfl ?_
      refine jr_aload_n (q := 0) C dLa_leastLength_3 rfl rfl ?_
      refine jr_getf (k := 2) C dLa_leastLength_4 inw_La (rfl : kC[4]? = _) (by decide) (List.mem_cons_of_mem _ tm1_123) rfl (kA_law hk) rfl ?_
      refine jr_icmp_ge (tgt := 47) C dLa_leastLength_7 (by decide) (fun z => ?_) (fun z => ?_)
      · have h := h.1 z
        refine jr_iconst (v := -1) C dLa_leastLength_47 (by decide) ?_
        exact jr_reti C hr hlocks dLa_leastLength_48 h rfl
      · have h := h.2 z
        refine jr_aload_n (q := 0) C dLa_leastLength_10 rfl rfl ?_
        refine jr_getf (k := 1) C dLa_leastLength_11 inw_La (rfl : kC[4]? = _) (by decide) (List.mem_cons_of_mem _ tm1_122) rfl (kA_law hk) rfl ?_
        refine jr_iload_n (q := 2) C dLa_leastLength_14 rfl rfl ?_
        obtain ⟨h1, h⟩ := h
        refine jr_iald (t0 := 0) C dLa_leastLength_15 (kA_str hk) rfl h1 ?_
        refine jr_iload_n (q := 1) C dLa_leastLength_16 rfl rfl ?_
        refine jr_icmp_lt (tgt := 41) C dLa_leastLength_17 (by decide) (fun z => ?_) (fun z => ?_)
        · have h := h.1 z
          refine jr_iinc (q := 2) (v := (x2 + (1 : Int32))) (lv' := [(2, .int (x2 + (1 : Int32))), (0, .ref (ad (51 + 3 * k))), (1, .int x1)]) C dLa_leastLength_41 rfl rfl (by decide) rfl ?_
          refine jr_goto (tgt := 2) C dLa_leastLength_44 (by decide) ?_
          refine jr_lv (lv' := [(0, .ref (ad (51 + 3 * k))), (1, .int x1), (2, .int (x2 + (1 : Int32)))]) [1, 2, 0] rfl ?_
          exact ih st x1 (x2 + (1 : Int32)) h
        · have h := h.2 z
          refine jr_iload_n (q := 2) C dLa_leastLength_20 rfl rfl ?_
          refine jr_iconst (v := 1) C dLa_leastLength_21 (by decide) ?_
          refine jr_icmp_ge (tgt := 34) C dLa_leastLength_22 (by decide) (fun z => ?_) (fun z => ?_)
          · have h := h.1 z
            refine jr_aload_n (q := 0) C dLa_leastLength_34 rfl rfl ?_
            refine jr_iload_n (q := 2) C dLa_leastLength_35 rfl rfl ?_
            refine jr_iload_n (q := 1) C dLa_leastLength_36 rfl rfl ?_
            refine jr_callVi (As := [.int x2, .int x1]) (rest := []) C (c_La_leastLengthBefore k hk h) (cwV 2 C.2.2.2.2.1 (tg_V tm3_119 tm3_121 tp_17 tm1_6 tm3_122) rfl rfl rfl ⟨rfl, by decide, by decide, by decide⟩ ⟨Nat.le_of_ble_eq_true rfl, Nat.le_of_ble_eq_true rfl⟩) dLa_leastLength_37 (rfl : kC[4]? = _) (kA_law hk) rfl rfl (Nat.le_of_ble_eq_true rfl) ⟨Nat.le_of_ble_eq_true rfl, Nat.le_of_ble_eq_true rfl⟩ (fun r3 st2 h => ?_)
            exact jr_reti C hr hlocks dLa_leastLength_40 h rfl
          · have h := h.2 z
            refine jr_aload_n (q := 0) C dLa_leastLength_25 rfl rfl ?_
            refine jr_getf (k := 0) C dLa_leastLength_26 inw_La (rfl : kC[4]? = _) (by decide) (List.mem_cons_of_mem _ tm1_121) rfl (kA_law hk) rfl ?_
            refine jr_iload_n (q := 2) C dLa_leastLength_29 rfl rfl ?_
            obtain ⟨h4, h⟩ := h
            refine jr_iald (t0 := 0) C dLa_leastLength_30 (kA_len hk) rfl h4 ?_
            refine jr_goto (tgt := 40) C dLa_leastLength_31 (by decide) ?_
            exact jr_reti C hr hlocks dLa_leastLength_40 h rfl
  obtain ⟨n6, h⟩ := h
  refine jr_lv (lv' := [(0, .ref (ad (51 + 3 * k))), (1, .int l1), (2, .int (0 : Int32))]) [1, 2, 0] rfl ?_
  exact lp5 n6 st l1 (0 : Int32) h
end KT
end
section
section KT
variable {l : Launch} {D : va_G} {cI cII cL cJ : ClassId} {ad sa : Nat → Nat} {K F : Nat} {fr : va_W}
def wp_Te_placeOf_2 (K F : Nat) (post : Int32 → jS → Prop) : Nat → jS → Int32 → Int32 → Prop
  | 0 => fun _ _ _ => False
  | n + 1 => fun st x1 x2 => ((((st 2 1) - (1 : Int32)) ≤ x2 → post x2 st) ∧ (¬ ((st 2 1) - (1 : Int32)) ≤ x2 → vp_in x2 K ∧ (((st 9 (Int32.toNatClampNeg x2)) = x1 → post x2 st) ∧ (¬ (st 9 (Int32.toNatClampNeg x2)) = x1 → wp_Te_placeOf_2 K F post n st x1 (x2 + (1 : Int32))))))
def wp_Te_placeOf (K F : Nat) (st : jS) (l1 : Int32) (post : Int32 → jS → Prop) : Prop :=
  (∃ n4, wp_Te_placeOf_2 K F post n4 st l1 (0 : Int32))
set_option maxRecDepth 100000 in
set_option maxHeartbeats 4000000 in
theorem c_Te_placeOf {st : jS} {l1 : Int32} {post : Int32 → jS → Prop} (h : wp_Te_placeOf K F st l1 post) : jr_Mi l yTe_placeOf wTe_placeOf ({ frames := 0, cells := 0, slots := 0, locals := 0 }) [.ref (ad 2), .int l1] D kC (kT cI cII cL cJ) (kW cI cII cL ad K F fr st) (kW cI cII cL ad K F fr) post := by
  refine jr_ofi (cc := bTe_placeOf) (nL := 3) (lv := [(0, .ref (ad 2)), (1, .int l1)]) (by decide) rfl (Nat.le_of_ble_eq_true rfl) rfl (fun p e s m args below meth c A C hr hlocks => ?_)
  unfold wp_Te_placeOf at h
  refine jr_iconst (v := 0) C dTe_placeOf_0 (by decide) ?_
  refine jr_istore_n (lv' := [(2, .int (0 : Int32)), (0, .ref (ad 2)), (1, .int l1)]) C dTe_placeOf_1 rfl (by decide) rfl ?_
  have lp2 : ∀ (n : Nat) (st : jS) (x1 : Int32) (x2 : Int32), wp_Te_placeOf_2 K F post n st x1 x2 → jr_J p l e (headSpec wTe_placeOf ({ frames := 0, cells := 0, slots := 0, locals := 0 })).room s m args below meth c A D kC 3 0 0 (MQ below (va_Qi post (jr_B D kC (kT cI cII cL cJ) (kW cI cII cL ad K F fr) A) A) args s 0 0 A) (kW cI cII cL ad K F fr st) 2 [(0, .ref (ad 2)), (1, .int x1), (2, .int x2)] [] := by
    intro n
    induction n with
    | zero => intro st x1 x2 h; exact h.elim
    | succ n ih =>
      intro st x1 x2 h
      unfold wp_Te_placeOf_2 at h
      refine jr_iload_n (q := 2) C dTe_placeOf_2 rfl rfl ?_
      refine jr_aload_n (q := 0) C dTe_placeOf_3 rfl rfl ?_
      refine jr_getf (k := 1) C dTe_placeOf_4 inw_Te (rfl : kC[2]? = _) (by decide) (List.mem_cons_of_mem _ tm1_70) rfl kA_2 rfl ?_
      refine jr_iconst (v := 1) C dTe_placeOf_7 (by decide) ?_
      refine jr_isub C dTe_placeOf_8 ?_
      refine jr_icmp_ge (tgt := 28) C dTe_placeOf_9 (by decide) (fun z => ?_) (fun z => ?_)
      · have h := h.1 z
        refine jr_iload_n (q := 2) C dTe_placeOf_28 rfl rfl ?_
        exact jr_reti C hr hlocks dTe_placeOf_29 h rfl
      · have h := h.2 z
        refine jr_aload_n (q := 0) C dTe_placeOf_12 rfl rfl ?_
        refine jr_getf (k := 2) C dTe_placeOf_13 inw_Te (rfl : kC[2]? = _) (by decide) (List.mem_cons_of_mem _ tm1_71) rfl kA_2 rfl ?_
        refine jr_iload_n (q := 2) C dTe_placeOf_16 rfl rfl ?_
        obtain ⟨h1, h⟩ := h
        refine jr_iald (t0 := 0) C dTe_placeOf_17 kA_9 rfl h1 ?_
        refine jr_iload_n (q := 1) C dTe_placeOf_18 rfl rfl ?_
        refine jr_icmp_eq (tgt := 28) C dTe_placeOf_19 (by decide) (fun z => ?_) (fun z => ?_)
        · have h := h.1 z
          refine jr_iload_n (q := 2) C dTe_placeOf_28 rfl rfl ?_
          exact jr_reti C hr hlocks dTe_placeOf_29 h rfl
        · have h := h.2 z
          refine jr_iinc (q := 2) (v := (x2 + (1 : Int32))) (lv' := [(2, .int (x2 + (1 : Int32))), (0, .ref (ad 2)), (1, .int x1)]) C dTe_placeOf_22 rfl rfl (by decide) rfl ?_
          refine jr_goto (tgt := 2) C dTe_placeOf_25 (by decide) ?_
          refine jr_lv (lv' := [(0, .ref (ad 2)), (1, .int x1), (2, .int (x2 + (1 : Int32)))]) [1, 2, 0] rfl ?_
          exact ih st x1 (x2 + (1 : Int32)) h
  obtain ⟨n3, h⟩ := h
  refine jr_lv (lv' := [(0, .ref (ad 2)), (1, .int l1), (2, .int (0 : Int32))]) [1, 2, 0] rfl ?_
  exact lp2 n3 st l1 (0 : Int32) h
def wp_Te_bringToFront_8 (K F : Nat) (post : Int32 → jS → Prop) : Nat → jS → Int32 → Int32 → Int32 → Prop
  | 0 => fun _ _ _ _ => False
  | n + 1 => fun st x1 x2 x3 => ((x3 ≤ 0 → vp_in (0 : Int32) K ∧ post x2 (jq st 9 (Int32.toNatClampNeg (0 : Int32)) x1)) ∧ (¬ x3 ≤ 0 → vp_in (x3 - (1 : Int32)) K ∧ vp_in x3 K ∧ wp_Te_bringToFront_8 K F post n (jq st 9 (Int32.toNatClampNeg x3) (st 9 (Int32.toNatClampNeg (x3 - (1 : Int32))))) x1 x2 (x3 + (-1 : Int32))))
def wp_Te_bringToFront (K F : Nat) (st : jS) (l1 : Int32) (post : Int32 → jS → Prop) : Prop :=
  wp_Te_placeOf K F st l1 (fun r2 st1 => (∃ n8, wp_Te_bringToFront_8 K F post n8 st1 l1 r2 r2))
set_option maxRecDepth 100000 in
set_option maxHeartbeats 4000000 in
theorem c_Te_bringToFront {st : jS} {l1 : Int32} {post : Int32 → jS → Prop} (h : wp_Te_bringToFront K F st l1 post) : jr_Mi l yTe_bringToFront wTe_bringToFront ({ frames := 1, cells := 0, slots := 0, locals := 22 }) [.ref (ad 2), .int l1] D kC (kT cI cII cL cJ) (kW cI cII cL ad K F fr st) (kW cI cII cL ad K F fr) post := by
  refine jr_ofi (cc := bTe_bringToFront) (nL := 4) (lv := [(0, .ref (ad 2)), (1, .int l1)]) (by decide) rfl (Nat.le_of_ble_eq_true rfl) rfl (fun p e s m args below meth c A C hr hlocks => ?_)
  unfold wp_Te_bringToFront at h
  refine jr_aload_n (q := 0) C dTe_bringToFront_0 rfl rfl ?_
  refine jr_iload_n (q := 1) C dTe_bringToFront_1 rfl rfl ?_
  refine jr_callVi (As := [.int l1]) (rest := []) C (c_Te_placeOf h) (cwV 1 C.2.2.2.2.1 (tg_V tm2_151 tm2_153 tp_7 tm1_4 tm2_154) rfl rfl rfl ⟨rfl, by decide, by decide, by decide⟩ ⟨Nat.le_of_ble_eq_true rfl, Nat.le_of_ble_eq_true rfl⟩) dTe_bringToFront_2 (rfl : kC[2]? = _) kA_2 rfl rfl (Nat.le_of_ble_eq_true rfl) ⟨Nat.le_of_ble_eq_true rfl, Nat.le_of_ble_eq_true rfl⟩ (fun r2 st1 h => ?_)
  refine jr_istore_n (lv' := [(2, .int r2), (0, .ref (ad 2)), (1, .int l1)]) C dTe_bringToFront_5 rfl (by decide) rfl ?_
  refine jr_iload_n (q := 0) C dTe_bringToFront_6 rfl rfl ?_
  refine jr_istore_n (lv' := [(3, .int r2), (2, .int r2), (0, .ref (ad 2)), (1, .int l1)]) C dTe_bringToFront_7 rfl (by decide) rfl ?_
  have lp6 : ∀ (n : Nat) (st : jS) (x1 : Int32) (x2 : Int32) (x3 : Int32), wp_Te_bringToFront_8 K F post n st x1 x2 x3 → jr_J p l e (headSpec wTe_bringToFront ({ frames := 1, cells := 0, slots := 0, locals := 22 })).room s m args below meth c A D kC 4 0 0 (MQ below (va_Qi post (jr_B D kC (kT cI cII cL cJ) (kW cI cII cL ad K F fr) A) A) args s 0 0 A) (kW cI cII cL ad K F fr st) 8 [(0, .ref (ad 2)), (1, .int x1), (2, .int x2), (3, .int x3)] [] := by
    intro n
    induction n with
    | zero => intro st x1 x2 x3 h; exact h.elim
    | succ n ih =>
      intro st x1 x2 x3 h
      unfold wp_Te_bringToFront_8 at h
      refine jr_iload_n (q := 3) C dTe_bringToFront_8 rfl rfl ?_
      refine jr_if_le (tgt := 32) C dTe_bringToFront_9 (by decide) (fun z => ?_) (fun z => ?_)
      · have h := h.1 z
        refine jr_aload_n (q := 0) C dTe_bringToFront_32 rfl rfl ?_
        refine jr_getf (k := 2) C dTe_bringToFront_33 inw_Te (rfl : kC[2]? = _) (by decide) (List.mem_cons_of_mem _ tm1_71) rfl kA_2 rfl ?_
        refine jr_iconst (v := 0) C dTe_bringToFront_36 (by decide) ?_
        refine jr_iload_n (q := 1) C dTe_bringToFront_37 rfl rfl ?_
        obtain ⟨h3, h⟩ := h
        refine jr_iast (t0 := 0) C dTe_bringToFront_38 kA_9 rfl h3 ?_
        refine jr_ws (ws' := kW cI cII cL ad K F fr (jq st 9 (Int32.toNatClampNeg (0 : Int32)) x1)) (kP_9) ?_
        refine jr_iload_n (q := 2) C dTe_bringToFront_39 rfl rfl ?_
        exact jr_reti C hr hlocks dTe_bringToFront_40 h rfl
      · have h := h.2 z
        refine jr_aload_n (q := 0) C dTe_bringToFront_12 rfl rfl ?_
        refine jr_getf (k := 2) C dTe_bringToFront_13 inw_Te (rfl : kC[2]? = _) (by decide) (List.mem_cons_of_mem _ tm1_71) rfl kA_2 rfl ?_
        refine jr_iload_n (q := 3) C dTe_bringToFront_16 rfl rfl ?_
        refine jr_aload_n (q := 0) C dTe_bringToFront_17 rfl rfl ?_
        refine jr_getf (k := 2) C dTe_bringToFront_18 inw_Te (rfl : kC[2]? = _) (by decide) (List.mem_cons_of_mem _ tm1_71) rfl kA_2 rfl ?_
        refine jr_iload_n (q := 3) C dTe_bringToFront_21 rfl rfl ?_
        refine jr_iconst (v := 1) C dTe_bringToFront_22 (by decide) ?_
        refine jr_isub C dTe_bringToFront_23 ?_
        obtain ⟨h4, h⟩ := h
        refine jr_iald (t0 := 0) C dTe_bringToFront_24 kA_9 rfl h4 ?_
        obtain ⟨h5, h⟩ := h
        refine jr_iast (t0 := 0) C dTe_bringToFront_25 kA_9 rfl h5 ?_
        refine jr_ws (ws' := kW cI cII cL ad K F fr (jq st 9 (Int32.toNatClampNeg x3) (st 9 (Int32.toNatClampNeg (x3 - (1 : Int32)))))) (kP_9) ?_
        refine jr_iinc (q := 3) (v := (x3 + (-1 : Int32))) (lv' := [(3, .int (x3 + (-1 : Int32))), (0, .ref (ad 2)), (1, .int x1), (2, .int x2)]) C dTe_bringToFront_26 rfl rfl (by decide) rfl ?_
        refine jr_goto (tgt := 8) C dTe_bringToFront_29 (by decide) ?_
        refine jr_lv (lv' := [(0, .ref (ad 2)), (1, .int x1), (2, .int x2), (3, .int (x3 + (-1 : Int32)))]) [1, 2, 3, 0] rfl ?_
        exact ih (jq st 9 (Int32.toNatClampNeg x3) (st 9 (Int32.toNatClampNeg (x3 - (1 : Int32))))) x1 x2 (x3 + (-1 : Int32)) h
  obtain ⟨n7, h⟩ := h
  refine jr_lv (lv' := [(0, .ref (ad 2)), (1, .int l1), (2, .int r2), (3, .int r2)]) [2, 3, 1, 0] rfl ?_
  exact lp6 n7 st1 l1 r2 r2 h
def wp_Te_takeVotes_29 (K F : Nat) (post : jS → Prop) : Nat → jS → Int32 → Int32 → Int32 → Int32 → Prop
  | 0 => fun _ _ _ _ _ => False
  | n + 1 => fun st x1 x2 x3 x4 => (((st 1 5) ≤ x4 → post st) ∧ (¬ (st 1 5) ≤ x4 → vp_in x4 24 ∧ ((x4 = x1 → wp_Te_takeVotes_29 K F post n st x1 x2 x3 (x4 + (1 : Int32))) ∧ (¬ x4 = x1 → (((st 6 (Int32.toNatClampNeg x4)) = (-1 : Int32) → wp_Te_takeVotes_29 K F post n st x1 x2 x3 (x4 + (1 : Int32))) ∧ (¬ (st 6 (Int32.toNatClampNeg x4)) = (-1 : Int32) → vp_in (st 6 (Int32.toNatClampNeg x4)) K ∧ wp_Ex_sameCells K F st x1 x4 x2 x3 (fun r4 st3 => vp_in (st 6 (Int32.toNatClampNeg x4)) K ∧ wp_Te_takeVotes_29 K F post n (jq st3 10 (Int32.toNatClampNeg (st 6 (Int32.toNatClampNeg x4))) ((st 10 (Int32.toNatClampNeg (st 6 (Int32.toNatClampNeg x4)))) + r4)) x1 x2 x3 (x4 + (1 : Int32)))))))))
def wp_Te_takeVotes_3 (K F : Nat) (post : jS → Prop) : Nat → jS → Int32 → Int32 → Int32 → Int32 → Prop
  | 0 => fun _ _ _ _ _ => False
  | n + 1 => fun st x1 x2 x3 x4 => (((st 2 1) ≤ x4 → (∃ n8, wp_Te_takeVotes_29 K F post n8 st x1 x2 x3 (0 : Int32))) ∧ (¬ (st 2 1) ≤ x4 → vp_in x4 K ∧ wp_Te_takeVotes_3 K F post n (jq st 10 (Int32.toNatClampNeg x4) (0 : Int32)) x1 x2 x3 (x4 + (1 : Int32))))
def wp_Te_takeVotes (K F : Nat) (st : jS) (l1 : Int32) (l2 : Int32) (l3 : Int32) (post : jS → Prop) : Prop :=
  (∃ n12, wp_Te_takeVotes_3 K F post n12 st l1 l2 l3 (0 : Int32))
set_option maxRecDepth 100000 in
set_option maxHeartbeats 4000000 in
theorem c_Te_takeVotes {st : jS} {l1 : Int32} {l2 : Int32} {l3 : Int32} {post : jS → Prop} (h : wp_Te_takeVotes K F st l1 l2 l3 post) : jr_Mv l yTe_takeVotes wTe_takeVotes ({ frames := 2, cells := 0, slots := 0, locals := 48 }) [.ref (ad 2), .int l1, .int l2, .int l3] D kC (kT cI cII cL cJ) (kW cI cII cL ad K F fr st) (kW cI cII cL ad K F fr) post := by
  refine jr_ofv (cc := bTe_takeVotes) (nL := 6) (lv := [(0, .ref (ad 2)), (1, .int l1), (2, .int l2), (3, .int l3)]) (by decide) rfl (Nat.le_of_ble_eq_true rfl) rfl (fun p e s m args below meth c A C hr hlocks => ?_)
  unfold wp_Te_takeVotes at h
  refine jr_iconst (v := 0) C dTe_takeVotes_0 (by decide) ?_
  refine jr_istore (lv' := [(4, .int (0 : Int32)), (0, .ref (ad 2)), (1, .int l1), (2, .int l2), (3, .int l3)]) C dTe_takeVotes_1 (by decide) rfl ?_
  have lp10 : ∀ (n : Nat) (st : jS) (x1 : Int32) (x2 : Int32) (x3 : Int32) (x4 : Int32), wp_Te_takeVotes_3 K F post n st x1 x2 x3 x4 → jr_J p l e (headSpec wTe_takeVotes ({ frames := 2, cells := 0, slots := 0, locals := 48 })).room s m args below meth c A D kC 6 0 0 (MQ below (va_Qv post (jr_B D kC (kT cI cII cL cJ) (kW cI cII cL ad K F fr) A) A) args s 0 0 A) (kW cI cII cL ad K F fr st) 3 [(0, .ref (ad 2)), (1, .int x1), (2, .int x2), (3, .int x3), (4, .int x4)] [] := by
    intro n
    induction n with
    | zero => intro st x1 x2 x3 x4 h; exact h.elim
    | succ n ih =>
      intro st x1 x2 x3 x4 h
      unfold wp_Te_takeVotes_3 at h
      refine jr_iload (q := 4) C dTe_takeVotes_3 rfl ?_
      refine jr_aload_n (q := 0) C dTe_takeVotes_5 rfl rfl ?_
      refine jr_getf (k := 1) C dTe_takeVotes_6 inw_Te (rfl : kC[2]? = _) (by decide) (List.mem_cons_of_mem _ tm1_70) rfl kA_2 rfl ?_
      refine jr_icmp_ge (tgt := 26) C dTe_takeVotes_9 (by decide) (fun z => ?_) (fun z => ?_)
      · have h := h.1 z
        refine jr_iconst (v := 0) C dTe_takeVotes_26 (by decide) ?_
        refine jr_istore (lv' := [(4, .int (0 : Int32)), (0, .ref (ad 2)), (1, .int x1), (2, .int x2), (3, .int x3)]) C dTe_takeVotes_27 (by decide) rfl ?_
        have lp6 : ∀ (n : Nat) (st : jS) (x1 : Int32) (x2 : Int32) (x3 : Int32) (x4 : Int32), wp_Te_takeVotes_29 K F post n st x1 x2 x3 x4 → jr_J p l e (headSpec wTe_takeVotes ({ frames := 2, cells := 0, slots := 0, locals := 48 })).room s m args below meth c A D kC 6 0 0 (MQ below (va_Qv post (jr_B D kC (kT cI cII cL cJ) (kW cI cII cL ad K F fr) A) A) args s 0 0 A) (kW cI cII cL ad K F fr st) 29 [(0, .ref (ad 2)), (1, .int x1), (2, .int x2), (3, .int x3), (4, .int x4)] [] := by
          intro n
          induction n with
          | zero => intro st x1 x2 x3 x4 h; exact h.elim
          | succ n ih =>
            intro st x1 x2 x3 x4 h
            unfold wp_Te_takeVotes_29 at h
            refine jr_iload (q := 4) C dTe_takeVotes_29 rfl ?_
            refine jr_aload_n (q := 0) C dTe_takeVotes_31 rfl rfl ?_
            refine jr_getf (k := 0) C dTe_takeVotes_32 inw_Te (rfl : kC[2]? = _) (by decide) (List.mem_cons_of_mem _ tm1_69) rfl kA_2 rfl ?_
            refine jr_getf (k := 5) C dTe_takeVotes_35 inw_Ex (rfl : kC[1]? = _) (by decide) (List.mem_cons_of_mem _ tm1_48) rfl kA_1 rfl ?_
            refine jr_icmp_ge (tgt := 93) C dTe_takeVotes_38 (by decide) (fun z => ?_) (fun z => ?_)
            · have h := h.1 z
              exact jr_retv C hr hlocks dTe_takeVotes_93 h rfl
            · have h := h.2 z
              refine jr_aload_n (q := 0) C dTe_takeVotes_41 rfl rfl ?_
              refine jr_getf (k := 0) C dTe_takeVotes_42 inw_Te (rfl : kC[2]? = _) (by decide) (List.mem_cons_of_mem _ tm1_69) rfl kA_2 rfl ?_
              refine jr_getf (k := 2) C dTe_takeVotes_45 inw_Ex (rfl : kC[1]? = _) (by decide) (List.mem_cons_of_mem _ tm1_42) rfl kA_1 rfl ?_
              refine jr_iload (q := 4) C dTe_takeVotes_48 rfl ?_
              obtain ⟨h1, h⟩ := h
              refine jr_iald (t0 := 0) C dTe_takeVotes_50 kA_6 rfl h1 ?_
              refine jr_istore (lv' := [(5, .int (st 6 (Int32.toNatClampNeg x4))), (0, .ref (ad 2)), (1, .int x1), (2, .int x2), (3, .int x3), (4, .int x4)]) C dTe_takeVotes_51 (by decide) rfl ?_
              refine jr_iload (q := 5) C dTe_takeVotes_53 rfl ?_
              refine jr_iload_n (q := 2) C dTe_takeVotes_55 rfl rfl ?_
              refine jr_icmp_eq (tgt := 87) C dTe_takeVotes_56 (by decide) (fun z => ?_) (fun z => ?_)
              · have h := h.1 z
                refine jr_iinc (q := 5) (v := (x4 + (1 : Int32))) (lv' := [(4, .int (x4 + (1 : Int32))), (5, .int (st 6 (Int32.toNatClampNeg x4))), (0, .ref (ad 2)), (1, .int x1), (2, .int x2), (3, .int x3)]) C dTe_takeVotes_87 rfl rfl (by decide) rfl ?_
                refine jr_goto (tgt := 29) C dTe_takeVotes_90 (by decide) ?_
                refine jr_lv (lv' := [(0, .ref (ad 2)), (1, .int x1), (2, .int x2), (3, .int x3), (4, .int (x4 + (1 : Int32)))]) [2, 3, 4, 5, 0] rfl ?_
                exact ih st x1 x2 x3 (x4 + (1 : Int32)) h
              · have h := h.2 z
                refine jr_iload (q := 0) C dTe_takeVotes_59 rfl ?_
                refine jr_iconst (v := -1) C dTe_takeVotes_61 (by decide) ?_
                refine jr_icmp_eq (tgt := 87) C dTe_takeVotes_62 (by decide) (fun z => ?_) (fun z => ?_)
                · have h := h.1 z
                  refine jr_iinc (q := 5) (v := (x4 + (1 : Int32))) (lv' := [(4, .int (x4 + (1 : Int32))), (5, .int (st 6 (Int32.toNatClampNeg x4))), (0, .ref (ad 2)), (1, .int x1), (2, .int x2), (3, .int x3)]) C dTe_takeVotes_87 rfl rfl (by decide) rfl ?_
                  refine jr_goto (tgt := 29) C dTe_takeVotes_90 (by decide) ?_
                  refine jr_lv (lv' := [(0, .ref (ad 2)), (1, .int x1), (2, .int x2), (3, .int x3), (4, .int (x4 + (1 : Int32)))]) [2, 3, 4, 5, 0] rfl ?_
                  exact ih st x1 x2 x3 (x4 + (1 : Int32)) h
                · have h := h.2 z
                  refine jr_aload_n (q := 1) C dTe_takeVotes_65 rfl rfl ?_
                  refine jr_getf (k := 3) C dTe_takeVotes_66 inw_Te (rfl : kC[2]? = _) (by decide) (List.mem_cons_of_mem _ tm1_72) rfl kA_2 rfl ?_
                  refine jr_iload (q := 0) C dTe_takeVotes_69 rfl ?_
                  refine jr_dup2_11 C dTe_takeVotes_71 rfl rfl ?_
                  obtain ⟨h2, h⟩ := h
                  refine jr_iald (t0 := 0) C dTe_takeVotes_72 kA_10 rfl h2 ?_
                  refine jr_aload_n (q := 1) C dTe_takeVotes_73 rfl rfl ?_
                  refine jr_getf (k := 0) C dTe_takeVotes_74 inw_Te (rfl : kC[2]? = _) (by decide) (List.mem_cons_of_mem _ tm1_69) rfl kA_2 rfl ?_
                  refine jr_iload_n (q := 2) C dTe_takeVotes_77 rfl rfl ?_
                  refine jr_iload (q := 5) C dTe_takeVotes_78 rfl ?_
                  refine jr_iload_n (q := 3) C dTe_takeVotes_80 rfl rfl ?_
                  refine jr_iload_n (q := 4) C dTe_takeVotes_81 rfl rfl ?_
                  refine jr_callVi (As := [.int x1, .int x4, .int x2, .int x3]) (rest := [.int (st 10 (Int32.toNatClampNeg (st 6 (Int32.toNatClampNeg x4)))), .int (st 6 (Int32.toNatClampNeg x4)), .ref (ad 10)]) C (c_Ex_sameCells h) (cwV 4 C.2.2.2.2.1 (tg_V tm1_171 tm1_172 tm1_173 tm1_3 tm1_174) rfl rfl rfl ⟨rfl, by decide, by decide, by decide⟩ ⟨Nat.le_of_ble_eq_true rfl, Nat.le_of_ble_eq_true rfl⟩) dTe_takeVotes_82 (rfl : kC[1]? = _) kA_1 rfl rfl (Nat.le_of_ble_eq_true rfl) ⟨Nat.le_of_ble_eq_true rfl, Nat.le_of_ble_eq_true rfl⟩ (fun r4 st3 h => ?_)
                  refine jr_iadd C dTe_takeVotes_85 ?_
                  obtain ⟨h5, h⟩ := h
                  refine jr_iast (t0 := 0) C dTe_takeVotes_86 kA_10 rfl h5 ?_
                  refine jr_ws (ws' := kW cI cII cL ad K F fr (jq st3 10 (Int32.toNatClampNeg (st 6 (Int32.toNatClampNeg x4))) ((st 10 (Int32.toNatClampNeg (st 6 (Int32.toNatClampNeg x4)))) + r4))) (kP_10) ?_
                  refine jr_iinc (q := 5) (v := (x4 + (1 : Int32))) (lv' := [(4, .int (x4 + (1 : Int32))), (5, .int (st 6 (Int32.toNatClampNeg x4))), (0, .ref (ad 2)), (1, .int x1), (2, .int x2), (3, .int x3)]) C dTe_takeVotes_87 rfl rfl (by decide) rfl ?_
                  refine jr_goto (tgt := 29) C dTe_takeVotes_90 (by decide) ?_
                  refine jr_lv (lv' := [(0, .ref (ad 2)), (1, .int x1), (2, .int x2), (3, .int x3), (4, .int (x4 + (1 : Int32)))]) [2, 3, 4, 5, 0] rfl ?_
                  exact ih (jq st3 10 (Int32.toNatClampNeg (st 6 (Int32.toNatClampNeg x4))) ((st 10 (Int32.toNatClampNeg (st 6 (Int32.toNatClampNeg x4)))) + r4)) x1 x2 x3 (x4 + (1 : Int32)) h
        obtain ⟨n7, h⟩ := h
        refine jr_lv (lv' := [(0, .ref (ad 2)), (1, .int x1), (2, .int x2), (3, .int x3), (4, .int (0 : Int32))]) [1, 2, 3, 4, 0] rfl ?_
        exact lp6 n7 st x1 x2 x3 (0 : Int32) h
      · have h := h.2 z
        refine jr_aload_n (q := 0) C dTe_takeVotes_12 rfl rfl ?_
        refine jr_getf (k := 3) C dTe_takeVotes_13 inw_Te (rfl : kC[2]? = _) (by decide) (List.mem_cons_of_mem _ tm1_72) rfl kA_2 rfl ?_
        refine jr_iload (q := 4) C dTe_takeVotes_16 rfl ?_
        refine jr_iconst (v := 0) C dTe_takeVotes_18 (by decide) ?_
        obtain ⟨h9, h⟩ := h
        refine jr_iast (t0 := 0) C dTe_takeVotes_19 kA_10 rfl h9 ?_
        refine jr_ws (ws' := kW cI cII cL ad K F fr (jq st 10 (Int32.toNatClampNeg x4) (0 : Int32))) (kP_10) ?_
        refine jr_iinc (q := 4) (v := (x4 + (1 : Int32))) (lv' := [(4, .int (x4 + (1 : Int32))), (0, .ref (ad 2)), (1, .int x1), (2, .int x2), (3, .int x3)]) C dTe_takeVotes_20 rfl rfl (by decide) rfl ?_
        refine jr_goto (tgt := 3) C dTe_takeVotes_23 (by decide) ?_
        refine jr_lv (lv' := [(0, .ref (ad 2)), (1, .int x1), (2, .int x2), (3, .int x3), (4, .int (x4 + (1 : Int32)))]) [1, 2, 3, 4, 0] rfl ?_
        exact ih (jq st 10 (Int32.toNatClampNeg x4) (0 : Int32)) x1 x2 x3 (x4 + (1 : Int32)) h
  obtain ⟨n11, h⟩ := h
  refine jr_lv (lv' := [(0, .ref (ad 2)), (1, .int l1), (2, .int l2), (3, .int l3), (4, .int (0 : Int32))]) [1, 2, 3, 4, 0] rfl ?_
  exact lp10 n11 st l1 l2 l3 (0 : Int32) h
def wp_Te_votesFor (K F : Nat) (st : jS) (l1 : Int32) (l2 : Int32) (post : Int32 → jS → Prop) : Prop :=
  wp_Te_takeVotes K F st l1 (0 : Int32) (st 1 0) (fun st1 => vp_in l2 K ∧ post (st1 10 (Int32.toNatClampNeg l2)) st1)
set_option maxRecDepth 100000 in
set_option maxHeartbeats 4000000 in
theorem c_Te_votesFor {st : jS} {l1 : Int32} {l2 : Int32} {post : Int32 → jS → Prop} (h : wp_Te_votesFor K F st l1 l2 post) : jr_Mi l yTe_votesFor wTe_votesFor ({ frames := 3, cells := 0, slots := 0, locals := 73 }) [.ref (ad 2), .int l1, .int l2] D kC (kT cI cII cL cJ) (kW cI cII cL ad K F fr st) (kW cI cII cL ad K F fr) post := by
  refine jr_ofi (cc := bTe_votesFor) (nL := 3) (lv := [(0, .ref (ad 2)), (1, .int l1), (2, .int l2)]) (by decide) rfl (Nat.le_of_ble_eq_true rfl) rfl (fun p e s m args below meth c A C hr hlocks => ?_)
  unfold wp_Te_votesFor at h
  refine jr_aload_n (q := 0) C dTe_votesFor_0 rfl rfl ?_
  refine jr_iload_n (q := 1) C dTe_votesFor_1 rfl rfl ?_
  refine jr_iconst (v := 0) C dTe_votesFor_2 (by decide) ?_
  refine jr_aload_n (q := 0) C dTe_votesFor_3 rfl rfl ?_
  refine jr_getf (k := 0) C dTe_votesFor_4 inw_Te (rfl : kC[2]? = _) (by decide) (List.mem_cons_of_mem _ tm1_69) rfl kA_2 rfl ?_
  refine jr_getf (k := 0) C dTe_votesFor_7 inw_Ex (rfl : kC[1]? = _) (by decide) (List.mem_cons_of_mem _ tm1_37) rfl kA_1 rfl ?_
  refine jr_callVv (As := [.int l1, .int (0 : Int32), .int (st 1 0)]) (rest := []) C (c_Te_takeVotes h) (cwV 3 C.2.2.2.2.1 (tg_V tm1_167 tm1_169 tp_1 tm1_4 tm1_170) rfl rfl rfl ⟨rfl, by decide, by decide, by decide⟩ ⟨Nat.le_of_ble_eq_true rfl, Nat.le_of_ble_eq_true rfl⟩) dTe_votesFor_10 (rfl : kC[2]? = _) kA_2 rfl rfl (Nat.le_of_ble_eq_true rfl) ⟨Nat.le_of_ble_eq_true rfl, Nat.le_of_ble_eq_true rfl⟩ (fun st1 h => ?_)
  refine jr_aload_n (q := 0) C dTe_votesFor_13 rfl rfl ?_
  refine jr_getf (k := 3) C dTe_votesFor_14 inw_Te (rfl : kC[2]? = _) (by decide) (List.mem_cons_of_mem _ tm1_72) rfl kA_2 rfl ?_
  refine jr_iload_n (q := 2) C dTe_votesFor_17 rfl rfl ?_
  obtain ⟨h3, h⟩ := h
  refine jr_iald (t0 := 0) C dTe_votesFor_18 kA_10 rfl h3 ?_
  exact jr_reti C hr hlocks dTe_votesFor_19 h rfl
def wp_Te_toldBy_18 (K F : Nat) (post : Int32 → jS → Prop) : Nat → jS → Int32 → Int32 → Int32 → Int32 → Int32 → Prop
  | 0 => fun _ _ _ _ _ _ => False
  | n + 1 => fun st x1 x2 x3 x4 x5 => (((st 2 1) ≤ x5 → vp_in x4 K ∧ (((st 2 5) ≤ (st 10 (Int32.toNatClampNeg x4)) → post x4 st) ∧ (¬ (st 2 5) ≤ (st 10 (Int32.toNatClampNeg x4)) → post (-1 : Int32) st))) ∧ (¬ (st 2 1) ≤ x5 → vp_in x5 K ∧ vp_in (st 9 (Int32.toNatClampNeg x5)) K ∧ vp_in x4 K ∧ (((st 10 (Int32.toNatClampNeg (st 9 (Int32.toNatClampNeg x5)))) ≤ (st 10 (Int32.toNatClampNeg x4)) → wp_Te_toldBy_18 K F post n st x1 x2 x3 x4 (x5 + (1 : Int32))) ∧ (¬ (st 10 (Int32.toNatClampNeg (st 9 (Int32.toNatClampNeg x5)))) ≤ (st 10 (Int32.toNatClampNeg x4)) → vp_in x5 K ∧ wp_Te_toldBy_18 K F post n st x1 x2 x3 (st 9 (Int32.toNatClampNeg x5)) (x5 + (1 : Int32))))))
def wp_Te_toldBy (K F : Nat) (st : jS) (l1 : Int32) (l2 : Int32) (l3 : Int32) (post : Int32 → jS → Prop) : Prop :=
  wp_Te_takeVotes K F st l1 l2 l3 (fun st1 => vp_in (0 : Int32) K ∧ (∃ n11, wp_Te_toldBy_18 K F post n11 st1 l1 l2 l3 (st1 9 (Int32.toNatClampNeg (0 : Int32))) (1 : Int32)))
set_option maxRecDepth 100000 in
set_option maxHeartbeats 4000000 in
theorem c_Te_toldBy {st : jS} {l1 : Int32} {l2 : Int32} {l3 : Int32} {post : Int32 → jS → Prop} (h : wp_Te_toldBy K F st l1 l2 l3 post) : jr_Mi l yTe_toldBy wTe_toldBy ({ frames := 3, cells := 0, slots := 0, locals := 73 }) [.ref (ad 2), .int l1, .int l2, .int l3] D kC (kT cI cII cL cJ) (kW cI cII cL ad K F fr st) (kW cI cII cL ad K F fr) post := by
  refine jr_ofi (cc := bTe_toldBy) (nL := 6) (lv := [(0, .ref (ad 2)), (1, .int l1), (2, .int l2), (3, .int l3)]) (by decide) rfl (Nat.le_of_ble_eq_true rfl) rfl (fun p e s m args below meth c A C hr hlocks => ?_)
  unfold wp_Te_toldBy at h
  refine jr_aload_n (q := 0) C dTe_toldBy_0 rfl rfl ?_
  refine jr_iload_n (q := 1) C dTe_toldBy_1 rfl rfl ?_
  refine jr_iload_n (q := 2) C dTe_toldBy_2 rfl rfl ?_
  refine jr_iload_n (q := 3) C dTe_toldBy_3 rfl rfl ?_
  refine jr_callVv (As := [.int l1, .int l2, .int l3]) (rest := []) C (c_Te_takeVotes h) (cwV 3 C.2.2.2.2.1 (tg_V tm1_167 tm1_169 tp_1 tm1_4 tm1_170) rfl rfl rfl ⟨rfl, by decide, by decide, by decide⟩ ⟨Nat.le_of_ble_eq_true rfl, Nat.le_of_ble_eq_true rfl⟩) dTe_toldBy_4 (rfl : kC[2]? = _) kA_2 rfl rfl (Nat.le_of_ble_eq_true rfl) ⟨Nat.le_of_ble_eq_true rfl, Nat.le_of_ble_eq_true rfl⟩ (fun st1 h => ?_)
  refine jr_aload_n (q := 0) C dTe_toldBy_7 rfl rfl ?_
  refine jr_getf (k := 2) C dTe_toldBy_8 inw_Te (rfl : kC[2]? = _) (by decide) (List.mem_cons_of_mem _ tm1_71) rfl kA_2 rfl ?_
  refine jr_iconst (v := 0) C dTe_toldBy_11 (by decide) ?_
  obtain ⟨h3, h⟩ := h
  refine jr_iald (t0 := 0) C dTe_toldBy_12 kA_9 rfl h3 ?_
  refine jr_istore (lv' := [(4, .int (st1 9 (Int32.toNatClampNeg (0 : Int32)))), (0, .ref (ad 2)), (1, .int l1), (2, .int l2), (3, .int l3)]) C dTe_toldBy_13 (by decide) rfl ?_
  refine jr_iconst (v := 1) C dTe_toldBy_15 (by decide) ?_
  refine jr_istore (lv' := [(5, .int (1 : Int32)), (4, .int (st1 9 (Int32.toNatClampNeg (0 : Int32)))), (0, .ref (ad 2)), (1, .int l1), (2, .int l2), (3, .int l3)]) C dTe_toldBy_16 (by decide) rfl ?_
  have lp9 : ∀ (n : Nat) (st : jS) (x1 : Int32) (x2 : Int32) (x3 : Int32) (x4 : Int32) (x5 : Int32), wp_Te_toldBy_18 K F post n st x1 x2 x3 x4 x5 → jr_J p l e (headSpec wTe_toldBy ({ frames := 3, cells := 0, slots := 0, locals := 73 })).room s m args below meth c A D kC 6 0 0 (MQ below (va_Qi post (jr_B D kC (kT cI cII cL cJ) (kW cI cII cL ad K F fr) A) A) args s 0 0 A) (kW cI cII cL ad K F fr st) 18 [(0, .ref (ad 2)), (1, .int x1), (2, .int x2), (3, .int x3), (4, .int x4), (5, .int x5)] [] := by
    intro n
    induction n with
    | zero => intro st x1 x2 x3 x4 x5 h; exact h.elim
    | succ n ih =>
      intro st x1 x2 x3 x4 x5 h
      unfold wp_Te_toldBy_18 at h
      refine jr_iload (q := 5) C dTe_toldBy_18 rfl ?_
      refine jr_aload_n (q := 0) C dTe_toldBy_20 rfl rfl ?_
      refine jr_getf (k := 1) C dTe_toldBy_21 inw_Te (rfl : kC[2]? = _) (by decide) (List.mem_cons_of_mem _ tm1_70) rfl kA_2 rfl ?_
      refine jr_icmp_ge (tgt := 64) C dTe_toldBy_24 (by decide) (fun z => ?_) (fun z => ?_)
      · have h := h.1 z
        refine jr_aload_n (q := 0) C dTe_toldBy_64 rfl rfl ?_
        refine jr_getf (k := 3) C dTe_toldBy_65 inw_Te (rfl : kC[2]? = _) (by decide) (List.mem_cons_of_mem _ tm1_72) rfl kA_2 rfl ?_
        refine jr_iload (q := 4) C dTe_toldBy_68 rfl ?_
        obtain ⟨h4, h⟩ := h
        refine jr_iald (t0 := 0) C dTe_toldBy_70 kA_10 rfl h4 ?_
        refine jr_aload_n (q := 0) C dTe_toldBy_71 rfl rfl ?_
        refine jr_getf (k := 5) C dTe_toldBy_72 inw_Te (rfl : kC[2]? = _) (by decide) (List.mem_cons_of_mem _ tm1_74) rfl kA_2 rfl ?_
        refine jr_icmp_ge (tgt := 82) C dTe_toldBy_75 (by decide) (fun z => ?_) (fun z => ?_)
        · have h := h.1 z
          refine jr_iload (q := 4) C dTe_toldBy_82 rfl ?_
          exact jr_reti C hr hlocks dTe_toldBy_84 h rfl
        · have h := h.2 z
          refine jr_iconst (v := -1) C dTe_toldBy_78 (by decide) ?_
          refine jr_goto (tgt := 84) C dTe_toldBy_79 (by decide) ?_
          exact jr_reti C hr hlocks dTe_toldBy_84 h rfl
      · have h := h.2 z
        refine jr_aload_n (q := 0) C dTe_toldBy_27 rfl rfl ?_
        refine jr_getf (k := 3) C dTe_toldBy_28 inw_Te (rfl : kC[2]? = _) (by decide) (List.mem_cons_of_mem _ tm1_72) rfl kA_2 rfl ?_
        refine jr_aload_n (q := 0) C dTe_toldBy_31 rfl rfl ?_
        refine jr_getf (k := 2) C dTe_toldBy_32 inw_Te (rfl : kC[2]? = _) (by decide) (List.mem_cons_of_mem _ tm1_71) rfl kA_2 rfl ?_
        refine jr_iload (q := 5) C dTe_toldBy_35 rfl ?_
        obtain ⟨h5, h⟩ := h
        refine jr_iald (t0 := 0) C dTe_toldBy_37 kA_9 rfl h5 ?_
        obtain ⟨h6, h⟩ := h
        refine jr_iald (t0 := 0) C dTe_toldBy_38 kA_10 rfl h6 ?_
        refine jr_aload_n (q := 0) C dTe_toldBy_39 rfl rfl ?_
        refine jr_getf (k := 3) C dTe_toldBy_40 inw_Te (rfl : kC[2]? = _) (by decide) (List.mem_cons_of_mem _ tm1_72) rfl kA_2 rfl ?_
        refine jr_iload (q := 4) C dTe_toldBy_43 rfl ?_
        obtain ⟨h7, h⟩ := h
        refine jr_iald (t0 := 0) C dTe_toldBy_45 kA_10 rfl h7 ?_
        refine jr_icmp_le (tgt := 58) C dTe_toldBy_46 (by decide) (fun z => ?_) (fun z => ?_)
        · have h := h.1 z
          refine jr_iinc (q := 5) (v := (x5 + (1 : Int32))) (lv' := [(5, .int (x5 + (1 : Int32))), (0, .ref (ad 2)), (1, .int x1), (2, .int x2), (3, .int x3), (4, .int x4)]) C dTe_toldBy_58 rfl rfl (by decide) rfl ?_
          refine jr_goto (tgt := 18) C dTe_toldBy_61 (by decide) ?_
          refine jr_lv (lv' := [(0, .ref (ad 2)), (1, .int x1), (2, .int x2), (3, .int x3), (4, .int x4), (5, .int (x5 + (1 : Int32)))]) [1, 2, 3, 4, 5, 0] rfl ?_
          exact ih st x1 x2 x3 x4 (x5 + (1 : Int32)) h
        · have h := h.2 z
          refine jr_aload_n (q := 0) C dTe_toldBy_49 rfl rfl ?_
          refine jr_getf (k := 2) C dTe_toldBy_50 inw_Te (rfl : kC[2]? = _) (by decide) (List.mem_cons_of_mem _ tm1_71) rfl kA_2 rfl ?_
          refine jr_iload (q := 5) C dTe_toldBy_53 rfl ?_
          obtain ⟨h8, h⟩ := h
          refine jr_iald (t0 := 0) C dTe_toldBy_55 kA_9 rfl h8 ?_
          refine jr_istore (lv' := [(4, .int (st 9 (Int32.toNatClampNeg x5))), (0, .ref (ad 2)), (1, .int x1), (2, .int x2), (3, .int x3), (5, .int x5)]) C dTe_toldBy_56 (by decide) rfl ?_
          refine jr_iinc (q := 5) (v := (x5 + (1 : Int32))) (lv' := [(5, .int (x5 + (1 : Int32))), (4, .int (st 9 (Int32.toNatClampNeg x5))), (0, .ref (ad 2)), (1, .int x1), (2, .int x2), (3, .int x3)]) C dTe_toldBy_58 rfl rfl (by decide) rfl ?_
          refine jr_goto (tgt := 18) C dTe_toldBy_61 (by decide) ?_
          refine jr_lv (lv' := [(0, .ref (ad 2)), (1, .int x1), (2, .int x2), (3, .int x3), (4, .int (st 9 (Int32.toNatClampNeg x5))), (5, .int (x5 + (1 : Int32)))]) [2, 3, 4, 5, 1, 0] rfl ?_
          exact ih st x1 x2 x3 (st 9 (Int32.toNatClampNeg x5)) (x5 + (1 : Int32)) h
  obtain ⟨n10, h⟩ := h
  refine jr_lv (lv' := [(0, .ref (ad 2)), (1, .int l1), (2, .int l2), (3, .int l3), (4, .int (st1 9 (Int32.toNatClampNeg (0 : Int32)))), (5, .int (1 : Int32))]) [2, 3, 4, 5, 1, 0] rfl ?_
  exact lp9 n10 st1 l1 l2 l3 (st1 9 (Int32.toNatClampNeg (0 : Int32))) (1 : Int32) h
def wp_Te_told (K F : Nat) (st : jS) (l1 : Int32) (post : Int32 → jS → Prop) : Prop :=
  wp_Te_toldBy K F st l1 (0 : Int32) (st 1 0) (fun r2 st1 => post r2 st1)
set_option maxRecDepth 100000 in
set_option maxHeartbeats 4000000 in
theorem c_Te_told {st : jS} {l1 : Int32} {post : Int32 → jS → Prop} (h : wp_Te_told K F st l1 post) : jr_Mi l yTe_told wTe_told ({ frames := 4, cells := 0, slots := 0, locals := 98 }) [.ref (ad 2), .int l1] D kC (kT cI cII cL cJ) (kW cI cII cL ad K F fr st) (kW cI cII cL ad K F fr) post := by
  refine jr_ofi (cc := bTe_told) (nL := 2) (lv := [(0, .ref (ad 2)), (1, .int l1)]) (by decide) rfl (Nat.le_of_ble_eq_true rfl) rfl (fun p e s m args below meth c A C hr hlocks => ?_)
  unfold wp_Te_told at h
  refine jr_aload_n (q := 0) C dTe_told_0 rfl rfl ?_
  refine jr_iload_n (q := 1) C dTe_told_1 rfl rfl ?_
  refine jr_iconst (v := 0) C dTe_told_2 (by decide) ?_
  refine jr_aload_n (q := 0) C dTe_told_3 rfl rfl ?_
  refine jr_getf (k := 0) C dTe_told_4 inw_Te (rfl : kC[2]? = _) (by decide) (List.mem_cons_of_mem _ tm1_69) rfl kA_2 rfl ?_
  refine jr_getf (k := 0) C dTe_told_7 inw_Ex (rfl : kC[1]? = _) (by decide) (List.mem_cons_of_mem _ tm1_37) rfl kA_1 rfl ?_
  refine jr_callVi (As := [.int l1, .int (0 : Int32), .int (st 1 0)]) (rest := []) C (c_Te_toldBy h) (cwV 3 C.2.2.2.2.1 (tg_V tm1_163 tm1_165 tp_0 tm1_4 tm1_166) rfl rfl rfl ⟨rfl, by decide, by decide, by decide⟩ ⟨Nat.le_of_ble_eq_true rfl, Nat.le_of_ble_eq_true rfl⟩) dTe_told_10 (rfl : kC[2]? = _) kA_2 rfl rfl (Nat.le_of_ble_eq_true rfl) ⟨Nat.le_of_ble_eq_true rfl, Nat.le_of_ble_eq_true rfl⟩ (fun r2 st1 h => ?_)
  exact jr_reti C hr hlocks dTe_told_13 h rfl
def wp_Te_countTold_5 (K F : Nat) (post : Int32 → jS → Prop) : Nat → jS → Int32 → Int32 → Int32 → Int32 → Prop
  | 0 => fun _ _ _ _ _ => False
  | n + 1 => fun st x1 x2 x3 x4 => (((st 1 5) ≤ x4 → post x3 st) ∧ (¬ (st 1 5) ≤ x4 → vp_in x4 24 ∧ ((¬ (st 6 (Int32.toNatClampNeg x4)) = x1 → wp_Te_countTold_5 K F post n st x1 x2 x3 (x4 + (1 : Int32))) ∧ ((st 6 (Int32.toNatClampNeg x4)) = x1 → wp_Te_told K F st x4 (fun r3 st2 => ((¬ r3 = x2 → wp_Te_countTold_5 K F post n st2 x1 x2 x3 (x4 + (1 : Int32))) ∧ (r3 = x2 → wp_Te_countTold_5 K F post n st2 x1 x2 (x3 + (1 : Int32)) (x4 + (1 : Int32)))))))))
def wp_Te_countTold (K F : Nat) (st : jS) (l1 : Int32) (l2 : Int32) (post : Int32 → jS → Prop) : Prop :=
  (∃ n6, wp_Te_countTold_5 K F post n6 st l1 l2 (0 : Int32) (0 : Int32))
set_option maxRecDepth 100000 in
set_option maxHeartbeats 4000000 in
theorem c_Te_countTold {st : jS} {l1 : Int32} {l2 : Int32} {post : Int32 → jS → Prop} (h : wp_Te_countTold K F st l1 l2 post) : jr_Mi l yTe_countTold wTe_countTold ({ frames := 5, cells := 0, slots := 0, locals := 119 }) [.ref (ad 2), .int l1, .int l2] D kC (kT cI cII cL cJ) (kW cI cII cL ad K F fr st) (kW cI cII cL ad K F fr) post := by
  refine jr_ofi (cc := bTe_countTold) (nL := 5) (lv := [(0, .ref (ad 2)), (1, .int l1), (2, .int l2)]) (by decide) rfl (Nat.le_of_ble_eq_true rfl) rfl (fun p e s m args below meth c A C hr hlocks => ?_)
  unfold wp_Te_countTold at h
  refine jr_iconst (v := 0) C dTe_countTold_0 (by decide) ?_
  refine jr_istore_n (lv' := [(3, .int (0 : Int32)), (0, .ref (ad 2)), (1, .int l1), (2, .int l2)]) C dTe_countTold_1 rfl (by decide) rfl ?_
  refine jr_iconst (v := 0) C dTe_countTold_2 (by decide) ?_
  refine jr_istore (lv' := [(4, .int (0 : Int32)), (3, .int (0 : Int32)), (0, .ref (ad 2)), (1, .int l1), (2, .int l2)]) C dTe_countTold_3 (by decide) rfl ?_
  have lp4 : ∀ (n : Nat) (st : jS) (x1 : Int32) (x2 : Int32) (x3 : Int32) (x4 : Int32), wp_Te_countTold_5 K F post n st x1 x2 x3 x4 → jr_J p l e (headSpec wTe_countTold ({ frames := 5, cells := 0, slots := 0, locals := 119 })).room s m args below meth c A D kC 5 0 0 (MQ below (va_Qi post (jr_B D kC (kT cI cII cL cJ) (kW cI cII cL ad K F fr) A) A) args s 0 0 A) (kW cI cII cL ad K F fr st) 5 [(0, .ref (ad 2)), (1, .int x1), (2, .int x2), (3, .int x3), (4, .int x4)] [] := by
    intro n
    induction n with
    | zero => intro st x1 x2 x3 x4 h; exact h.elim
    | succ n ih =>
      intro st x1 x2 x3 x4 h
      unfold wp_Te_countTold_5 at h
      refine jr_iload (q := 4) C dTe_countTold_5 rfl ?_
      refine jr_aload_n (q := 0) C dTe_countTold_7 rfl rfl ?_
      refine jr_getf (k := 0) C dTe_countTold_8 inw_Te (rfl : kC[2]? = _) (by decide) (List.mem_cons_of_mem _ tm1_69) rfl kA_2 rfl ?_
      refine jr_getf (k := 5) C dTe_countTold_11 inw_Ex (rfl : kC[1]? = _) (by decide) (List.mem_cons_of_mem _ tm1_48) rfl kA_1 rfl ?_
      refine jr_icmp_ge (tgt := 50) C dTe_countTold_14 (by decide) (fun z => ?_) (fun z => ?_)
      · have h := h.1 z
        refine jr_iload_n (q := 3) C dTe_countTold_50 rfl rfl ?_
        exact jr_reti C hr hlocks dTe_countTold_51 h rfl
      · have h := h.2 z
        refine jr_aload_n (q := 0) C dTe_countTold_17 rfl rfl ?_
        refine jr_getf (k := 0) C dTe_countTold_18 inw_Te (rfl : kC[2]? = _) (by decide) (List.mem_cons_of_mem _ tm1_69) rfl kA_2 rfl ?_
        refine jr_getf (k := 2) C dTe_countTold_21 inw_Ex (rfl : kC[1]? = _) (by decide) (List.mem_cons_of_mem _ tm1_42) rfl kA_1 rfl ?_
        refine jr_iload (q := 4) C dTe_countTold_24 rfl ?_
        obtain ⟨h1, h⟩ := h
        refine jr_iald (t0 := 0) C dTe_countTold_26 kA_6 rfl h1 ?_
        refine jr_iload_n (q := 1) C dTe_countTold_27 rfl rfl ?_
        refine jr_icmp_ne (tgt := 44) C dTe_countTold_28 (by decide) (fun z => ?_) (fun z => ?_)
        · have h := h.1 z
          refine jr_iinc (q := 4) (v := (x4 + (1 : Int32))) (lv' := [(4, .int (x4 + (1 : Int32))), (0, .ref (ad 2)), (1, .int x1), (2, .int x2), (3, .int x3)]) C dTe_countTold_44 rfl rfl (by decide) rfl ?_
          refine jr_goto (tgt := 5) C dTe_countTold_47 (by decide) ?_
          refine jr_lv (lv' := [(0, .ref (ad 2)), (1, .int x1), (2, .int x2), (3, .int x3), (4, .int (x4 + (1 : Int32)))]) [1, 2, 3, 4, 0] rfl ?_
          exact ih st x1 x2 x3 (x4 + (1 : Int32)) h
        · have h := h.2 z
          refine jr_aload_n (q := 0) C dTe_countTold_31 rfl rfl ?_
          refine jr_iload (q := 4) C dTe_countTold_32 rfl ?_
          refine jr_callVi (As := [.int x4]) (rest := []) C (c_Te_told h) (cwV 1 C.2.2.2.2.1 (tg_V tm1_159 tm1_160 tm1_161 tm1_4 tm1_162) rfl rfl rfl ⟨rfl, by decide, by decide, by decide⟩ ⟨Nat.le_of_ble_eq_true rfl, Nat.le_of_ble_eq_true rfl⟩) dTe_countTold_34 (rfl : kC[2]? = _) kA_2 rfl rfl (Nat.le_of_ble_eq_true rfl) ⟨Nat.le_of_ble_eq_true rfl, Nat.le_of_ble_eq_true rfl⟩ (fun r3 st2 h => ?_)
          refine jr_iload_n (q := 2) C dTe_countTold_37 rfl rfl ?_
          refine jr_icmp_ne (tgt := 44) C dTe_countTold_38 (by decide) (fun z => ?_) (fun z => ?_)
          · have h := h.1 z
            refine jr_iinc (q := 4) (v := (x4 + (1 : Int32))) (lv' := [(4, .int (x4 + (1 : Int32))), (0, .ref (ad 2)), (1, .int x1), (2, .int x2), (3, .int x3)]) C dTe_countTold_44 rfl rfl (by decide) rfl ?_
            refine jr_goto (tgt := 5) C dTe_countTold_47 (by decide) ?_
            refine jr_lv (lv' := [(0, .ref (ad 2)), (1, .int x1), (2, .int x2), (3, .int x3), (4, .int (x4 + (1 : Int32)))]) [1, 2, 3, 4, 0] rfl ?_
            exact ih st2 x1 x2 x3 (x4 + (1 : Int32)) h
          · have h := h.2 z
            refine jr_iinc (q := 3) (v := (x3 + (1 : Int32))) (lv' := [(3, .int (x3 + (1 : Int32))), (0, .ref (ad 2)), (1, .int x1), (2, .int x2), (4, .int x4)]) C dTe_countTold_41 rfl rfl (by decide) rfl ?_
            refine jr_iinc (q := 4) (v := (x4 + (1 : Int32))) (lv' := [(4, .int (x4 + (1 : Int32))), (3, .int (x3 + (1 : Int32))), (0, .ref (ad 2)), (1, .int x1), (2, .int x2)]) C dTe_countTold_44 rfl rfl (by decide) rfl ?_
            refine jr_goto (tgt := 5) C dTe_countTold_47 (by decide) ?_
            refine jr_lv (lv' := [(0, .ref (ad 2)), (1, .int x1), (2, .int x2), (3, .int (x3 + (1 : Int32))), (4, .int (x4 + (1 : Int32)))]) [2, 3, 4, 1, 0] rfl ?_
            exact ih st2 x1 x2 (x3 + (1 : Int32)) (x4 + (1 : Int32)) h
  obtain ⟨n5, h⟩ := h
  refine jr_lv (lv' := [(0, .ref (ad 2)), (1, .int l1), (2, .int l2), (3, .int (0 : Int32)), (4, .int (0 : Int32))]) [2, 3, 4, 1, 0] rfl ?_
  exact lp4 n5 st l1 l2 (0 : Int32) (0 : Int32) h
def wp_Te_countUnknown_4 (K F : Nat) (post : Int32 → jS → Prop) : Nat → jS → Int32 → Int32 → Prop
  | 0 => fun _ _ _ => False
  | n + 1 => fun st x1 x2 => (((st 1 5) ≤ x2 → post x1 st) ∧ (¬ (st 1 5) ≤ x2 → wp_Te_told K F st x2 (fun r2 st1 => ((¬ r2 = (-1 : Int32) → wp_Te_countUnknown_4 K F post n st1 x1 (x2 + (1 : Int32))) ∧ (r2 = (-1 : Int32) → wp_Te_countUnknown_4 K F post n st1 (x1 + (1 : Int32)) (x2 + (1 : Int32)))))))
def wp_Te_countUnknown (K F : Nat) (st : jS) (post : Int32 → jS → Prop) : Prop :=
  (∃ n5, wp_Te_countUnknown_4 K F post n5 st (0 : Int32) (0 : Int32))
set_option maxRecDepth 100000 in
set_option maxHeartbeats 4000000 in
theorem c_Te_countUnknown {st : jS} {post : Int32 → jS → Prop} (h : wp_Te_countUnknown K F st post) : jr_Mi l yTe_countUnknown wTe_countUnknown ({ frames := 5, cells := 0, slots := 0, locals := 119 }) [.ref (ad 2)] D kC (kT cI cII cL cJ) (kW cI cII cL ad K F fr st) (kW cI cII cL ad K F fr) post := by
  refine jr_ofi (cc := bTe_countUnknown) (nL := 3) (lv := [(0, .ref (ad 2))]) (by decide) rfl (Nat.le_of_ble_eq_true rfl) rfl (fun p e s m args below meth c A C hr hlocks => ?_)
  unfold wp_Te_countUnknown at h
  refine jr_iconst (v := 0) C dTe_countUnknown_0 (by decide) ?_
  refine jr_istore_n (lv' := [(1, .int (0 : Int32)), (0, .ref (ad 2))]) C dTe_countUnknown_1 rfl (by decide) rfl ?_
  refine jr_iconst (v := 0) C dTe_countUnknown_2 (by decide) ?_
  refine jr_istore_n (lv' := [(2, .int (0 : Int32)), (1, .int (0 : Int32)), (0, .ref (ad 2))]) C dTe_countUnknown_3 rfl (by decide) rfl ?_
  have lp3 : ∀ (n : Nat) (st : jS) (x1 : Int32) (x2 : Int32), wp_Te_countUnknown_4 K F post n st x1 x2 → jr_J p l e (headSpec wTe_countUnknown ({ frames := 5, cells := 0, slots := 0, locals := 119 })).room s m args below meth c A D kC 3 0 0 (MQ below (va_Qi post (jr_B D kC (kT cI cII cL cJ) (kW cI cII cL ad K F fr) A) A) args s 0 0 A) (kW cI cII cL ad K F fr st) 4 [(0, .ref (ad 2)), (1, .int x1), (2, .int x2)] [] := by
    intro n
    induction n with
    | zero => intro st x1 x2 h; exact h.elim
    | succ n ih =>
      intro st x1 x2 h
      unfold wp_Te_countUnknown_4 at h
      refine jr_iload_n (q := 2) C dTe_countUnknown_4 rfl rfl ?_
      refine jr_aload_n (q := 0) C dTe_countUnknown_5 rfl rfl ?_
      refine jr_getf (k := 0) C dTe_countUnknown_6 inw_Te (rfl : kC[2]? = _) (by decide) (List.mem_cons_of_mem _ tm1_69) rfl kA_2 rfl ?_
      refine jr_getf (k := 5) C dTe_countUnknown_9 inw_Ex (rfl : kC[1]? = _) (by decide) (List.mem_cons_of_mem _ tm1_48) rfl kA_1 rfl ?_
      refine jr_icmp_ge (tgt := 33) C dTe_countUnknown_12 (by decide) (fun z => ?_) (fun z => ?_)
      · have h := h.1 z
        refine jr_iload_n (q := 1) C dTe_countUnknown_33 rfl rfl ?_
        exact jr_reti C hr hlocks dTe_countUnknown_34 h rfl
      · have h := h.2 z
        refine jr_aload_n (q := 0) C dTe_countUnknown_15 rfl rfl ?_
        refine jr_iload_n (q := 2) C dTe_countUnknown_16 rfl rfl ?_
        refine jr_callVi (As := [.int x2]) (rest := []) C (c_Te_told h) (cwV 1 C.2.2.2.2.1 (tg_V tm1_159 tm1_160 tm1_161 tm1_4 tm1_162) rfl rfl rfl ⟨rfl, by decide, by decide, by decide⟩ ⟨Nat.le_of_ble_eq_true rfl, Nat.le_of_ble_eq_true rfl⟩) dTe_countUnknown_17 (rfl : kC[2]? = _) kA_2 rfl rfl (Nat.le_of_ble_eq_true rfl) ⟨Nat.le_of_ble_eq_true rfl, Nat.le_of_ble_eq_true rfl⟩ (fun r2 st1 h => ?_)
        refine jr_iconst (v := -1) C dTe_countUnknown_20 (by decide) ?_
        refine jr_icmp_ne (tgt := 27) C dTe_countUnknown_21 (by decide) (fun z => ?_) (fun z => ?_)
        · have h := h.1 z
          refine jr_iinc (q := 2) (v := (x2 + (1 : Int32))) (lv' := [(2, .int (x2 + (1 : Int32))), (0, .ref (ad 2)), (1, .int x1)]) C dTe_countUnknown_27 rfl rfl (by decide) rfl ?_
          refine jr_goto (tgt := 4) C dTe_countUnknown_30 (by decide) ?_
          refine jr_lv (lv' := [(0, .ref (ad 2)), (1, .int x1), (2, .int (x2 + (1 : Int32)))]) [1, 2, 0] rfl ?_
          exact ih st1 x1 (x2 + (1 : Int32)) h
        · have h := h.2 z
          refine jr_iinc (q := 1) (v := (x1 + (1 : Int32))) (lv' := [(1, .int (x1 + (1 : Int32))), (0, .ref (ad 2)), (2, .int x2)]) C dTe_countUnknown_24 rfl rfl (by decide) rfl ?_
          refine jr_iinc (q := 2) (v := (x2 + (1 : Int32))) (lv' := [(2, .int (x2 + (1 : Int32))), (1, .int (x1 + (1 : Int32))), (0, .ref (ad 2))]) C dTe_countUnknown_27 rfl rfl (by decide) rfl ?_
          refine jr_goto (tgt := 4) C dTe_countUnknown_30 (by decide) ?_
          refine jr_lv (lv' := [(0, .ref (ad 2)), (1, .int (x1 + (1 : Int32))), (2, .int (x2 + (1 : Int32)))]) [2, 1, 0] rfl ?_
          exact ih st1 (x1 + (1 : Int32)) (x2 + (1 : Int32)) h
  obtain ⟨n4, h⟩ := h
  refine jr_lv (lv' := [(0, .ref (ad 2)), (1, .int (0 : Int32)), (2, .int (0 : Int32))]) [2, 1, 0] rfl ?_
  exact lp3 n4 st (0 : Int32) (0 : Int32) h
def wp_Te_rightBy_4 (K F : Nat) (post : Int32 → jS → Prop) : Nat → jS → Int32 → Int32 → Int32 → Prop
  | 0 => fun _ _ _ _ => False
  | n + 1 => fun st x1 x2 x3 => (((st 1 5) ≤ x3 → post x2 st) ∧ (¬ (st 1 5) ≤ x3 → vp_in x3 24 ∧ (((st 6 (Int32.toNatClampNeg x3)) = (-1 : Int32) → wp_Te_rightBy_4 K F post n st x1 x2 (x3 + (1 : Int32))) ∧ (¬ (st 6 (Int32.toNatClampNeg x3)) = (-1 : Int32) → wp_Te_toldBy K F st x3 x1 (x1 + (1 : Int32)) (fun r3 st2 => ((¬ r3 = (st 6 (Int32.toNatClampNeg x3)) → wp_Te_rightBy_4 K F post n st2 x1 x2 (x3 + (1 : Int32))) ∧ (r3 = (st 6 (Int32.toNatClampNeg x3)) → wp_Te_rightBy_4 K F post n st2 x1 (x2 + (1 : Int32)) (x3 + (1 : Int32)))))))))
def wp_Te_rightBy (K F : Nat) (st : jS) (l1 : Int32) (post : Int32 → jS → Prop) : Prop :=
  (∃ n6, wp_Te_rightBy_4 K F post n6 st l1 (0 : Int32) (0 : Int32))
set_option maxRecDepth 100000 in
set_option maxHeartbeats 4000000 in
theorem c_Te_rightBy {st : jS} {l1 : Int32} {post : Int32 → jS → Prop} (h : wp_Te_rightBy K F st l1 post) : jr_Mi l yTe_rightBy wTe_rightBy ({ frames := 4, cells := 0, slots := 0, locals := 98 }) [.ref (ad 2), .int l1] D kC (kT cI cII cL cJ) (kW cI cII cL ad K F fr st) (kW cI cII cL ad K F fr) post := by
  refine jr_ofi (cc := bTe_rightBy) (nL := 5) (lv := [(0, .ref (ad 2)), (1, .int l1)]) (by decide) rfl (Nat.le_of_ble_eq_true rfl) rfl (fun p e s m args below meth c A C hr hlocks => ?_)
  unfold wp_Te_rightBy at h
  refine jr_iconst (v := 0) C dTe_rightBy_0 (by decide) ?_
  refine jr_istore_n (lv' := [(2, .int (0 : Int32)), (0, .ref (ad 2)), (1, .int l1)]) C dTe_rightBy_1 rfl (by decide) rfl ?_
  refine jr_iconst (v := 0) C dTe_rightBy_2 (by decide) ?_
  refine jr_istore_n (lv' := [(3, .int (0 : Int32)), (2, .int (0 : Int32)), (0, .ref (ad 2)), (1, .int l1)]) C dTe_rightBy_3 rfl (by decide) rfl ?_
  have lp4 : ∀ (n : Nat) (st : jS) (x1 : Int32) (x2 : Int32) (x3 : Int32), wp_Te_rightBy_4 K F post n st x1 x2 x3 → jr_J p l e (headSpec wTe_rightBy ({ frames := 4, cells := 0, slots := 0, locals := 98 })).room s m args below meth c A D kC 5 0 0 (MQ below (va_Qi post (jr_B D kC (kT cI cII cL cJ) (kW cI cII cL ad K F fr) A) A) args s 0 0 A) (kW cI cII cL ad K F fr st) 4 [(0, .ref (ad 2)), (1, .int x1), (2, .int x2), (3, .int x3)] [] := by
    intro n
    induction n with
    | zero => intro st x1 x2 x3 h; exact h.elim
    | succ n ih =>
      intro st x1 x2 x3 h
      unfold wp_Te_rightBy_4 at h
      refine jr_iload_n (q := 3) C dTe_rightBy_4 rfl rfl ?_
      refine jr_aload_n (q := 0) C dTe_rightBy_5 rfl rfl ?_
      refine jr_getf (k := 0) C dTe_rightBy_6 inw_Te (rfl : kC[2]? = _) (by decide) (List.mem_cons_of_mem _ tm1_69) rfl kA_2 rfl ?_
      refine jr_getf (k := 5) C dTe_rightBy_9 inw_Ex (rfl : kC[1]? = _) (by decide) (List.mem_cons_of_mem _ tm1_48) rfl kA_1 rfl ?_
      refine jr_icmp_ge (tgt := 55) C dTe_rightBy_12 (by decide) (fun z => ?_) (fun z => ?_)
      · have h := h.1 z
        refine jr_iload_n (q := 2) C dTe_rightBy_55 rfl rfl ?_
        exact jr_reti C hr hlocks dTe_rightBy_56 h rfl
      · have h := h.2 z
        refine jr_aload_n (q := 0) C dTe_rightBy_15 rfl rfl ?_
        refine jr_getf (k := 0) C dTe_rightBy_16 inw_Te (rfl : kC[2]? = _) (by decide) (List.mem_cons_of_mem _ tm1_69) rfl kA_2 rfl ?_
        refine jr_getf (k := 2) C dTe_rightBy_19 inw_Ex (rfl : kC[1]? = _) (by decide) (List.mem_cons_of_mem _ tm1_42) rfl kA_1 rfl ?_
        refine jr_iload_n (q := 3) C dTe_rightBy_22 rfl rfl ?_
        obtain ⟨h1, h⟩ := h
        refine jr_iald (t0 := 0) C dTe_rightBy_23 kA_6 rfl h1 ?_
        refine jr_istore (lv' := [(4, .int (st 6 (Int32.toNatClampNeg x3))), (0, .ref (ad 2)), (1, .int x1), (2, .int x2), (3, .int x3)]) C dTe_rightBy_24 (by decide) rfl ?_
        refine jr_iload (q := 0) C dTe_rightBy_26 rfl ?_
        refine jr_iconst (v := -1) C dTe_rightBy_28 (by decide) ?_
        refine jr_icmp_eq (tgt := 49) C dTe_rightBy_29 (by decide) (fun z => ?_) (fun z => ?_)
        · have h := h.1 z
          refine jr_iinc (q := 4) (v := (x3 + (1 : Int32))) (lv' := [(3, .int (x3 + (1 : Int32))), (4, .int (st 6 (Int32.toNatClampNeg x3))), (0, .ref (ad 2)), (1, .int x1), (2, .int x2)]) C dTe_rightBy_49 rfl rfl (by decide) rfl ?_
          refine jr_goto (tgt := 4) C dTe_rightBy_52 (by decide) ?_
          refine jr_lv (lv' := [(0, .ref (ad 2)), (1, .int x1), (2, .int x2), (3, .int (x3 + (1 : Int32)))]) [2, 3, 4, 0] rfl ?_
          exact ih st x1 x2 (x3 + (1 : Int32)) h
        · have h := h.2 z
          refine jr_aload_n (q := 1) C dTe_rightBy_32 rfl rfl ?_
          refine jr_iload_n (q := 4) C dTe_rightBy_33 rfl rfl ?_
          refine jr_iload_n (q := 2) C dTe_rightBy_34 rfl rfl ?_
          refine jr_iload_n (q := 2) C dTe_rightBy_35 rfl rfl ?_
          refine jr_iconst (v := 1) C dTe_rightBy_36 (by decide) ?_
          refine jr_iadd C dTe_rightBy_37 ?_
          refine jr_callVi (As := [.int x3, .int x1, .int (x1 + (1 : Int32))]) (rest := []) C (c_Te_toldBy h) (cwV 3 C.2.2.2.2.1 (tg_V tm1_163 tm1_165 tp_0 tm1_4 tm1_166) rfl rfl rfl ⟨rfl, by decide, by decide, by decide⟩ ⟨Nat.le_of_ble_eq_true rfl, Nat.le_of_ble_eq_true rfl⟩) dTe_rightBy_38 (rfl : kC[2]? = _) kA_2 rfl rfl (Nat.le_of_ble_eq_true rfl) ⟨Nat.le_of_ble_eq_true rfl, Nat.le_of_ble_eq_true rfl⟩ (fun r3 st2 h => ?_)
          refine jr_iload (q := 0) C dTe_rightBy_41 rfl ?_
          refine jr_icmp_ne (tgt := 49) C dTe_rightBy_43 (by decide) (fun z => ?_) (fun z => ?_)
          · have h := h.1 z
            refine jr_iinc (q := 4) (v := (x3 + (1 : Int32))) (lv' := [(3, .int (x3 + (1 : Int32))), (4, .int (st 6 (Int32.toNatClampNeg x3))), (0, .ref (ad 2)), (1, .int x1), (2, .int x2)]) C dTe_rightBy_49 rfl rfl (by decide) rfl ?_
            refine jr_goto (tgt := 4) C dTe_rightBy_52 (by decide) ?_
            refine jr_lv (lv' := [(0, .ref (ad 2)), (1, .int x1), (2, .int x2), (3, .int (x3 + (1 : Int32)))]) [2, 3, 4, 0] rfl ?_
            exact ih st2 x1 x2 (x3 + (1 : Int32)) h
          · have h := h.2 z
            refine jr_iinc (q := 3) (v := (x2 + (1 : Int32))) (lv' := [(2, .int (x2 + (1 : Int32))), (4, .int (st 6 (Int32.toNatClampNeg x3))), (0, .ref (ad 2)), (1, .int x1), (3, .int x3)]) C dTe_rightBy_46 rfl rfl (by decide) rfl ?_
            refine jr_iinc (q := 4) (v := (x3 + (1 : Int32))) (lv' := [(3, .int (x3 + (1 : Int32))), (2, .int (x2 + (1 : Int32))), (4, .int (st 6 (Int32.toNatClampNeg x3))), (0, .ref (ad 2)), (1, .int x1)]) C dTe_rightBy_49 rfl rfl (by decide) rfl ?_
            refine jr_goto (tgt := 4) C dTe_rightBy_52 (by decide) ?_
            refine jr_lv (lv' := [(0, .ref (ad 2)), (1, .int x1), (2, .int (x2 + (1 : Int32))), (3, .int (x3 + (1 : Int32)))]) [3, 4, 1, 0] rfl ?_
            exact ih st2 x1 (x2 + (1 : Int32)) (x3 + (1 : Int32)) h
  obtain ⟨n5, h⟩ := h
  refine jr_lv (lv' := [(0, .ref (ad 2)), (1, .int l1), (2, .int (0 : Int32)), (3, .int (0 : Int32))]) [2, 3, 1, 0] rfl ?_
  exact lp4 n5 st l1 (0 : Int32) (0 : Int32) h
def wp_Te_countBefore_4 (K F : Nat) (post : Int32 → jS → Prop) : Nat → jS → Int32 → Int32 → Int32 → Prop
  | 0 => fun _ _ _ _ => False
  | n + 1 => fun st x1 x2 x3 => (((st 1 0) ≤ x3 → post x2 st) ∧ (¬ (st 1 0) ≤ x3 → vp_in x3 F ∧ vp_in x1 F ∧ ((¬ (st 11 (Int32.toNatClampNeg x3)) = (st 11 (Int32.toNatClampNeg x1)) → vp_in x3 F ∧ vp_in x1 F ∧ (((st 11 (Int32.toNatClampNeg x1)) < (st 11 (Int32.toNatClampNeg x3)) → wp_Te_countBefore_4 K F post n st x1 (x2 + (1 : Int32)) (x3 + (1 : Int32))) ∧ (¬ (st 11 (Int32.toNatClampNeg x1)) < (st 11 (Int32.toNatClampNeg x3)) → (((0 : Int32) = 0 → wp_Te_countBefore_4 K F post n st x1 x2 (x3 + (1 : Int32))) ∧ (¬ (0 : Int32) = 0 → wp_Te_countBefore_4 K F post n st x1 (x2 + (1 : Int32)) (x3 + (1 : Int32))))))) ∧ ((st 11 (Int32.toNatClampNeg x3)) = (st 11 (Int32.toNatClampNeg x1)) → ((x1 ≤ x3 → vp_in x3 F ∧ vp_in x1 F ∧ (((st 11 (Int32.toNatClampNeg x1)) < (st 11 (Int32.toNatClampNeg x3)) → wp_Te_countBefore_4 K F post n st x1 (x2 + (1 : Int32)) (x3 + (1 : Int32))) ∧ (¬ (st 11 (Int32.toNatClampNeg x1)) < (st 11 (Int32.toNatClampNeg x3)) → (((0 : Int32) = 0 → wp_Te_countBefore_4 K F post n st x1 x2 (x3 + (1 : Int32))) ∧ (¬ (0 : Int32) = 0 → wp_Te_countBefore_4 K F post n st x1 (x2 + (1 : Int32)) (x3 + (1 : Int32))))))) ∧ (¬ x1 ≤ x3 → vp_in x3 F ∧ vp_in x1 F ∧ (((st 11 (Int32.toNatClampNeg x1)) < (st 11 (Int32.toNatClampNeg x3)) → wp_Te_countBefore_4 K F post n st x1 (x2 + (1 : Int32)) (x3 + (1 : Int32))) ∧ (¬ (st 11 (Int32.toNatClampNeg x1)) < (st 11 (Int32.toNatClampNeg x3)) → (((1 : Int32) = 0 → wp_Te_countBefore_4 K F post n st x1 x2 (x3 + (1 : Int32))) ∧ (¬ (1 : Int32) = 0 → wp_Te_countBefore_4 K F post n st x1 (x2 + (1 : Int32)) (x3 + (1 : Int32))))))))))))
def wp_Te_countBefore (K F : Nat) (st : jS) (l1 : Int32) (post : Int32 → jS → Prop) : Prop :=
  (∃ n11, wp_Te_countBefore_4 K F post n11 st l1 (0 : Int32) (0 : Int32))
set_option maxRecDepth 100000 in
set_option maxHeartbeats 4000000 in
theorem c_Te_countBefore {st : jS} {l1 : Int32} {post : Int32 → jS → Prop} (h : wp_Te_countBefore K F st l1 post) : jr_Mi l yTe_countBefore wTe_countBefore ({ frames := 0, cells := 0, slots := 0, locals := 0 }) [.ref (ad 2), .int l1] D kC (kT cI cII cL cJ) (kW cI cII cL ad K F fr st) (kW cI cII cL ad K F fr) post := by
  refine jr_ofi (cc := bTe_countBefore) (nL := 5) (lv := [(0, .ref (ad 2)), (1, .int l1)]) (by decide) rfl (Nat.le_of_ble_eq_true rfl) rfl (fun p e s m args below meth c A C hr hlocks => ?_)
  unfold wp_Te_countBefore at h
  refine jr_iconst (v := 0) C dTe_countBefore_0 (by decide) ?_
  refine jr_istore_n (lv' := [(2, .int (0 : Int32)), (0, .ref (ad 2)), (1, .int l1)]) C dTe_countBefore_1 rfl (by decide) rfl ?_
  refine jr_iconst (v := 0) C dTe_countBefore_2 (by decide) ?_
  refine jr_istore_n (lv' := [(3, .int (0 : Int32)), (2, .int (0 : Int32)), (0, .ref (ad 2)), (1, .int l1)]) C dTe_countBefore_3 rfl (by decide) rfl ?_
  have lp9 : ∀ (n : Nat) (st : jS) (x1 : Int32) (x2 : Int32) (x3 : Int32), wp_Te_countBefore_4 K F post n st x1 x2 x3 → jr_J p l e (headSpec wTe_countBefore ({ frames := 0, cells := 0, slots := 0, locals := 0 })).room s m args below meth c A D kC 5 0 0 (MQ below (va_Qi post (jr_B D kC (kT cI cII cL cJ) (kW cI cII cL ad K F fr) A) A) args s 0 0 A) (kW cI cII cL ad K F fr st) 4 [(0, .ref (ad 2)), (1, .int x1), (2, .int x2), (3, .int x3)] [] := by
    intro n
    induction n with
    | zero => intro st x1 x2 x3 h; exact h.elim
    | succ n ih =>
      intro st x1 x2 x3 h
      unfold wp_Te_countBefore_4 at h
      refine jr_iload_n (q := 3) C dTe_countBefore_4 rfl rfl ?_
      refine jr_aload_n (q := 0) C dTe_countBefore_5 rfl rfl ?_
      refine jr_getf (k := 0) C dTe_countBefore_6 inw_Te (rfl : kC[2]? = _) (by decide) (List.mem_cons_of_mem _ tm1_69) rfl kA_2 rfl ?_
      refine jr_getf (k := 0) C dTe_countBefore_9 inw_Ex (rfl : kC[1]? = _) (by decide) (List.mem_cons_of_mem _ tm1_37) rfl kA_1 rfl ?_
      refine jr_icmp_ge (tgt := 71) C dTe_countBefore_12 (by decide) (fun z => ?_) (fun z => ?_)
      · have h := h.1 z
        refine jr_iload_n (q := 2) C dTe_countBefore_71 rfl rfl ?_
        exact jr_reti C hr hlocks dTe_countBefore_72 h rfl
      · have h := h.2 z
        refine jr_aload_n (q := 0) C dTe_countBefore_15 rfl rfl ?_
        refine jr_getf (k := 4) C dTe_countBefore_16 inw_Te (rfl : kC[2]? = _) (by decide) (List.mem_cons_of_mem _ tm1_73) rfl kA_2 rfl ?_
        refine jr_iload_n (q := 3) C dTe_countBefore_19 rfl rfl ?_
        obtain ⟨h1, h⟩ := h
        refine jr_iald (t0 := 0) C dTe_countBefore_20 kA_11 rfl h1 ?_
        refine jr_aload_n (q := 0) C dTe_countBefore_21 rfl rfl ?_
        refine jr_getf (k := 4) C dTe_countBefore_22 inw_Te (rfl : kC[2]? = _) (by decide) (List.mem_cons_of_mem _ tm1_73) rfl kA_2 rfl ?_
        refine jr_iload_n (q := 1) C dTe_countBefore_25 rfl rfl ?_
        obtain ⟨h2, h⟩ := h
        refine jr_iald (t0 := 0) C dTe_countBefore_26 kA_11 rfl h2 ?_
        refine jr_icmp_ne (tgt := 39) C dTe_countBefore_27 (by decide) (fun z => ?_) (fun z => ?_)
        · have h := h.1 z
          refine jr_iconst (v := 0) C dTe_countBefore_39 (by decide) ?_
          refine jr_istore (lv' := [(4, .int (0 : Int32)), (0, .ref (ad 2)), (1, .int x1), (2, .int x2), (3, .int x3)]) C dTe_countBefore_40 (by decide) rfl ?_
          refine jr_aload_n (q := 1) C dTe_countBefore_42 rfl rfl ?_
          refine jr_getf (k := 4) C dTe_countBefore_43 inw_Te (rfl : kC[2]? = _) (by decide) (List.mem_cons_of_mem _ tm1_73) rfl kA_2 rfl ?_
          refine jr_iload_n (q := 4) C dTe_countBefore_46 rfl rfl ?_
          obtain ⟨h3, h⟩ := h
          refine jr_iald (t0 := 0) C dTe_countBefore_47 kA_11 rfl h3 ?_
          refine jr_aload_n (q := 1) C dTe_countBefore_48 rfl rfl ?_
          refine jr_getf (k := 4) C dTe_countBefore_49 inw_Te (rfl : kC[2]? = _) (by decide) (List.mem_cons_of_mem _ tm1_73) rfl kA_2 rfl ?_
          refine jr_iload_n (q := 2) C dTe_countBefore_52 rfl rfl ?_
          obtain ⟨h4, h⟩ := h
          refine jr_iald (t0 := 0) C dTe_countBefore_53 kA_11 rfl h4 ?_
          refine jr_icmp_gt (tgt := 62) C dTe_countBefore_54 (by decide) (fun z => ?_) (fun z => ?_)
          · have h := h.1 z
            refine jr_iinc (q := 3) (v := (x2 + (1 : Int32))) (lv' := [(2, .int (x2 + (1 : Int32))), (4, .int (0 : Int32)), (0, .ref (ad 2)), (1, .int x1), (3, .int x3)]) C dTe_countBefore_62 rfl rfl (by decide) rfl ?_
            refine jr_iinc (q := 4) (v := (x3 + (1 : Int32))) (lv' := [(3, .int (x3 + (1 : Int32))), (2, .int (x2 + (1 : Int32))), (4, .int (0 : Int32)), (0, .ref (ad 2)), (1, .int x1)]) C dTe_countBefore_65 rfl rfl (by decide) rfl ?_
            refine jr_goto (tgt := 4) C dTe_countBefore_68 (by decide) ?_
            refine jr_lv (lv' := [(0, .ref (ad 2)), (1, .int x1), (2, .int (x2 + (1 : Int32))), (3, .int (x3 + (1 : Int32)))]) [3, 4, 1, 0] rfl ?_
            exact ih st x1 (x2 + (1 : Int32)) (x3 + (1 : Int32)) h
          · have h := h.2 z
            refine jr_iload (q := 0) C dTe_countBefore_57 rfl ?_
            refine jr_if_eq (tgt := 65) C dTe_countBefore_59 (by decide) (fun z => ?_) (fun z => ?_)
            · have h := h.1 z
              refine jr_iinc (q := 4) (v := (x3 + (1 : Int32))) (lv' := [(3, .int (x3 + (1 : Int32))), (4, .int (0 : Int32)), (0, .ref (ad 2)), (1, .int x1), (2, .int x2)]) C dTe_countBefore_65 rfl rfl (by decide) rfl ?_
              refine jr_goto (tgt := 4) C dTe_countBefore_68 (by decide) ?_
              refine jr_lv (lv' := [(0, .ref (ad 2)), (1, .int x1), (2, .int x2), (3, .int (x3 + (1 : Int32)))]) [2, 3, 4, 0] rfl ?_
              exact ih st x1 x2 (x3 + (1 : Int32)) h
            · have h := h.2 z
              refine jr_iinc (q := 3) (v := (x2 + (1 : Int32))) (lv' := [(2, .int (x2 + (1 : Int32))), (4, .int (0 : Int32)), (0, .ref (ad 2)), (1, .int x1), (3, .int x3)]) C dTe_countBefore_62 rfl rfl (by decide) rfl ?_
              refine jr_iinc (q := 4) (v := (x3 + (1 : Int32))) (lv' := [(3, .int (x3 + (1 : Int32))), (2, .int (x2 + (1 : Int32))), (4, .int (0 : Int32)), (0, .ref (ad 2)), (1, .int x1)]) C dTe_countBefore_65 rfl rfl (by decide) rfl ?_
              refine jr_goto (tgt := 4) C dTe_countBefore_68 (by decide) ?_
              refine jr_lv (lv' := [(0, .ref (ad 2)), (1, .int x1), (2, .int (x2 + (1 : Int32))), (3, .int (x3 + (1 : Int32)))]) [3, 4, 1, 0] rfl ?_
              exact ih st x1 (x2 + (1 : Int32)) (x3 + (1 : Int32)) h
        · have h := h.2 z
          refine jr_iload_n (q := 3) C dTe_countBefore_30 rfl rfl ?_
          refine jr_iload_n (q := 1) C dTe_countBefore_31 rfl rfl ?_
          refine jr_icmp_ge (tgt := 39) C dTe_countBefore_32 (by decide) (fun z => ?_) (fun z => ?_)
          · have h := h.1 z
            refine jr_iconst (v := 0) C dTe_countBefore_39 (by decide) ?_
            refine jr_istore (lv' := [(4, .int (0 : Int32)), (0, .ref (ad 2)), (1, .int x1), (2, .int x2), (3, .int x3)]) C dTe_countBefore_40 (by decide) rfl ?_
            refine jr_aload_n (q := 1) C dTe_countBefore_42 rfl rfl ?_
            refine jr_getf (k := 4) C dTe_countBefore_43 inw_Te (rfl : kC[2]? = _) (by decide) (List.mem_cons_of_mem _ tm1_73) rfl kA_2 rfl ?_
            refine jr_iload_n (q := 4) C dTe_countBefore_46 rfl rfl ?_
            obtain ⟨h5, h⟩ := h
            refine jr_iald (t0 := 0) C dTe_countBefore_47 kA_11 rfl h5 ?_
            refine jr_aload_n (q := 1) C dTe_countBefore_48 rfl rfl ?_
            refine jr_getf (k := 4) C dTe_countBefore_49 inw_Te (rfl : kC[2]? = _) (by decide) (List.mem_cons_of_mem _ tm1_73) rfl kA_2 rfl ?_
            refine jr_iload_n (q := 2) C dTe_countBefore_52 rfl rfl ?_
            obtain ⟨h6, h⟩ := h
            refine jr_iald (t0 := 0) C dTe_countBefore_53 kA_11 rfl h6 ?_
            refine jr_icmp_gt (tgt := 62) C dTe_countBefore_54 (by decide) (fun z => ?_) (fun z => ?_)
            · have h := h.1 z
              refine jr_iinc (q := 3) (v := (x2 + (1 : Int32))) (lv' := [(2, .int (x2 + (1 : Int32))), (4, .int (0 : Int32)), (0, .ref (ad 2)), (1, .int x1), (3, .int x3)]) C dTe_countBefore_62 rfl rfl (by decide) rfl ?_
              refine jr_iinc (q := 4) (v := (x3 + (1 : Int32))) (lv' := [(3, .int (x3 + (1 : Int32))), (2, .int (x2 + (1 : Int32))), (4, .int (0 : Int32)), (0, .ref (ad 2)), (1, .int x1)]) C dTe_countBefore_65 rfl rfl (by decide) rfl ?_
              refine jr_goto (tgt := 4) C dTe_countBefore_68 (by decide) ?_
              refine jr_lv (lv' := [(0, .ref (ad 2)), (1, .int x1), (2, .int (x2 + (1 : Int32))), (3, .int (x3 + (1 : Int32)))]) [3, 4, 1, 0] rfl ?_
              exact ih st x1 (x2 + (1 : Int32)) (x3 + (1 : Int32)) h
            · have h := h.2 z
              refine jr_iload (q := 0) C dTe_countBefore_57 rfl ?_
              refine jr_if_eq (tgt := 65) C dTe_countBefore_59 (by decide) (fun z => ?_) (fun z => ?_)
              · have h := h.1 z
                refine jr_iinc (q := 4) (v := (x3 + (1 : Int32))) (lv' := [(3, .int (x3 + (1 : Int32))), (4, .int (0 : Int32)), (0, .ref (ad 2)), (1, .int x1), (2, .int x2)]) C dTe_countBefore_65 rfl rfl (by decide) rfl ?_
                refine jr_goto (tgt := 4) C dTe_countBefore_68 (by decide) ?_
                refine jr_lv (lv' := [(0, .ref (ad 2)), (1, .int x1), (2, .int x2), (3, .int (x3 + (1 : Int32)))]) [2, 3, 4, 0] rfl ?_
                exact ih st x1 x2 (x3 + (1 : Int32)) h
              · have h := h.2 z
                refine jr_iinc (q := 3) (v := (x2 + (1 : Int32))) (lv' := [(2, .int (x2 + (1 : Int32))), (4, .int (0 : Int32)), (0, .ref (ad 2)), (1, .int x1), (3, .int x3)]) C dTe_countBefore_62 rfl rfl (by decide) rfl ?_
                refine jr_iinc (q := 4) (v := (x3 + (1 : Int32))) (lv' := [(3, .int (x3 + (1 : Int32))), (2, .int (x2 + (1 : Int32))), (4, .int (0 : Int32)), (0, .ref (ad 2)), (1, .int x1)]) C dTe_countBefore_65 rfl rfl (by decide) rfl ?_
                refine jr_goto (tgt := 4) C dTe_countBefore_68 (by decide) ?_
                refine jr_lv (lv' := [(0, .ref (ad 2)), (1, .int x1), (2, .int (x2 + (1 : Int32))), (3, .int (x3 + (1 : Int32)))]) [3, 4, 1, 0] rfl ?_
                exact ih st x1 (x2 + (1 : Int32)) (x3 + (1 : Int32)) h
          · have h := h.2 z
            refine jr_iconst (v := 1) C dTe_countBefore_35 (by decide) ?_
            refine jr_goto (tgt := 40) C dTe_countBefore_36 (by decide) ?_
            refine jr_istore (lv' := [(4, .int (1 : Int32)), (0, .ref (ad 2)), (1, .int x1), (2, .int x2), (3, .int x3)]) C dTe_countBefore_40 (by decide) rfl ?_
            refine jr_aload_n (q := 1) C dTe_countBefore_42 rfl rfl ?_
            refine jr_getf (k := 4) C dTe_countBefore_43 inw_Te (rfl : kC[2]? = _) (by decide) (List.mem_cons_of_mem _ tm1_73) rfl kA_2 rfl ?_
            refine jr_iload_n (q := 4) C dTe_countBefore_46 rfl rfl ?_
            obtain ⟨h7, h⟩ := h
            refine jr_iald (t0 := 0) C dTe_countBefore_47 kA_11 rfl h7 ?_
            refine jr_aload_n (q := 1) C dTe_countBefore_48 rfl rfl ?_
            refine jr_getf (k := 4) C dTe_countBefore_49 inw_Te (rfl : kC[2]? = _) (by decide) (List.mem_cons_of_mem _ tm1_73) rfl kA_2 rfl ?_
            refine jr_iload_n (q := 2) C dTe_countBefore_52 rfl rfl ?_
            obtain ⟨h8, h⟩ := h
            refine jr_iald (t0 := 0) C dTe_countBefore_53 kA_11 rfl h8 ?_
            refine jr_icmp_gt (tgt := 62) C dTe_countBefore_54 (by decide) (fun z => ?_) (fun z => ?_)
            · have h := h.1 z
              refine jr_iinc (q := 3) (v := (x2 + (1 : Int32))) (lv' := [(2, .int (x2 + (1 : Int32))), (4, .int (1 : Int32)), (0, .ref (ad 2)), (1, .int x1), (3, .int x3)]) C dTe_countBefore_62 rfl rfl (by decide) rfl ?_
              refine jr_iinc (q := 4) (v := (x3 + (1 : Int32))) (lv' := [(3, .int (x3 + (1 : Int32))), (2, .int (x2 + (1 : Int32))), (4, .int (1 : Int32)), (0, .ref (ad 2)), (1, .int x1)]) C dTe_countBefore_65 rfl rfl (by decide) rfl ?_
              refine jr_goto (tgt := 4) C dTe_countBefore_68 (by decide) ?_
              refine jr_lv (lv' := [(0, .ref (ad 2)), (1, .int x1), (2, .int (x2 + (1 : Int32))), (3, .int (x3 + (1 : Int32)))]) [3, 4, 1, 0] rfl ?_
              exact ih st x1 (x2 + (1 : Int32)) (x3 + (1 : Int32)) h
            · have h := h.2 z
              refine jr_iload (q := 0) C dTe_countBefore_57 rfl ?_
              refine jr_if_eq (tgt := 65) C dTe_countBefore_59 (by decide) (fun z => ?_) (fun z => ?_)
              · have h := h.1 z
                refine jr_iinc (q := 4) (v := (x3 + (1 : Int32))) (lv' := [(3, .int (x3 + (1 : Int32))), (4, .int (1 : Int32)), (0, .ref (ad 2)), (1, .int x1), (2, .int x2)]) C dTe_countBefore_65 rfl rfl (by decide) rfl ?_
                refine jr_goto (tgt := 4) C dTe_countBefore_68 (by decide) ?_
                refine jr_lv (lv' := [(0, .ref (ad 2)), (1, .int x1), (2, .int x2), (3, .int (x3 + (1 : Int32)))]) [2, 3, 4, 0] rfl ?_
                exact ih st x1 x2 (x3 + (1 : Int32)) h
              · have h := h.2 z
                refine jr_iinc (q := 3) (v := (x2 + (1 : Int32))) (lv' := [(2, .int (x2 + (1 : Int32))), (4, .int (1 : Int32)), (0, .ref (ad 2)), (1, .int x1), (3, .int x3)]) C dTe_countBefore_62 rfl rfl (by decide) rfl ?_
                refine jr_iinc (q := 4) (v := (x3 + (1 : Int32))) (lv' := [(3, .int (x3 + (1 : Int32))), (2, .int (x2 + (1 : Int32))), (4, .int (1 : Int32)), (0, .ref (ad 2)), (1, .int x1)]) C dTe_countBefore_65 rfl rfl (by decide) rfl ?_
                refine jr_goto (tgt := 4) C dTe_countBefore_68 (by decide) ?_
                refine jr_lv (lv' := [(0, .ref (ad 2)), (1, .int x1), (2, .int (x2 + (1 : Int32))), (3, .int (x3 + (1 : Int32)))]) [3, 4, 1, 0] rfl ?_
                exact ih st x1 (x2 + (1 : Int32)) (x3 + (1 : Int32)) h
  obtain ⟨n10, h⟩ := h
  refine jr_lv (lv' := [(0, .ref (ad 2)), (1, .int l1), (2, .int (0 : Int32)), (3, .int (0 : Int32))]) [2, 3, 1, 0] rfl ?_
  exact lp9 n10 st l1 (0 : Int32) (0 : Int32) h
def wp_Te_featureAt_32 (K F : Nat) (post : Int32 → jS → Prop) : Nat → jS → Int32 → Int32 → Prop
  | 0 => fun _ _ _ => False
  | n + 1 => fun st x1 x2 => (((st 1 0) ≤ x2 → post (-1 : Int32) st) ∧ (¬ (st 1 0) ≤ x2 → wp_Te_countBefore K F st x2 (fun r2 st1 => ((¬ r2 = x1 → wp_Te_featureAt_32 K F post n st1 x1 (x2 + (1 : Int32))) ∧ (r2 = x1 → post x2 st1)))))
def wp_Te_featureAt_2 (K F : Nat) (post : Int32 → jS → Prop) : Nat → jS → Int32 → Int32 → Prop
  | 0 => fun _ _ _ => False
  | n + 1 => fun st x1 x2 => (((st 1 0) ≤ x2 → (∃ n5, wp_Te_featureAt_32 K F post n5 st x1 (0 : Int32))) ∧ (¬ (st 1 0) ≤ x2 → wp_Te_rightBy K F st x2 (fun r7 st6 => vp_in x2 F ∧ wp_Te_featureAt_2 K F post n (jq st6 11 (Int32.toNatClampNeg x2) r7) x1 (x2 + (1 : Int32)))))
def wp_Te_featureAt (K F : Nat) (st : jS) (l1 : Int32) (post : Int32 → jS → Prop) : Prop :=
  (∃ n11, wp_Te_featureAt_2 K F post n11 st l1 (0 : Int32))
set_option maxRecDepth 100000 in
set_option maxHeartbeats 4000000 in
theorem c_Te_featureAt {st : jS} {l1 : Int32} {post : Int32 → jS → Prop} (h : wp_Te_featureAt K F st l1 post) : jr_Mi l yTe_featureAt wTe_featureAt ({ frames := 5, cells := 0, slots := 0, locals := 122 }) [.ref (ad 2), .int l1] D kC (kT cI cII cL cJ) (kW cI cII cL ad K F fr st) (kW cI cII cL ad K F fr) post := by
  refine jr_ofi (cc := bTe_featureAt) (nL := 3) (lv := [(0, .ref (ad 2)), (1, .int l1)]) (by decide) rfl (Nat.le_of_ble_eq_true rfl) rfl (fun p e s m args below meth c A C hr hlocks => ?_)
  unfold wp_Te_featureAt at h
  refine jr_iconst (v := 0) C dTe_featureAt_0 (by decide) ?_
  refine jr_istore_n (lv' := [(2, .int (0 : Int32)), (0, .ref (ad 2)), (1, .int l1)]) C dTe_featureAt_1 rfl (by decide) rfl ?_
  have lp9 : ∀ (n : Nat) (st : jS) (x1 : Int32) (x2 : Int32), wp_Te_featureAt_2 K F post n st x1 x2 → jr_J p l e (headSpec wTe_featureAt ({ frames := 5, cells := 0, slots := 0, locals := 122 })).room s m args below meth c A D kC 3 0 0 (MQ below (va_Qi post (jr_B D kC (kT cI cII cL cJ) (kW cI cII cL ad K F fr) A) A) args s 0 0 A) (kW cI cII cL ad K F fr st) 2 [(0, .ref (ad 2)), (1, .int x1), (2, .int x2)] [] := by
    intro n
    induction n with
    | zero => intro st x1 x2 h; exact h.elim
    | succ n ih =>
      intro st x1 x2 h
      unfold wp_Te_featureAt_2 at h
      refine jr_iload_n (q := 2) C dTe_featureAt_2 rfl rfl ?_
      refine jr_aload_n (q := 0) C dTe_featureAt_3 rfl rfl ?_
      refine jr_getf (k := 0) C dTe_featureAt_4 inw_Te (rfl : kC[2]? = _) (by decide) (List.mem_cons_of_mem _ tm1_69) rfl kA_2 rfl ?_
      refine jr_getf (k := 0) C dTe_featureAt_7 inw_Ex (rfl : kC[1]? = _) (by decide) (List.mem_cons_of_mem _ tm1_37) rfl kA_1 rfl ?_
      refine jr_icmp_ge (tgt := 30) C dTe_featureAt_10 (by decide) (fun z => ?_) (fun z => ?_)
      · have h := h.1 z
        refine jr_iconst (v := 0) C dTe_featureAt_30 (by decide) ?_
        refine jr_istore_n (lv' := [(2, .int (0 : Int32)), (0, .ref (ad 2)), (1, .int x1)]) C dTe_featureAt_31 rfl (by decide) rfl ?_
        have lp3 : ∀ (n : Nat) (st : jS) (x1 : Int32) (x2 : Int32), wp_Te_featureAt_32 K F post n st x1 x2 → jr_J p l e (headSpec wTe_featureAt ({ frames := 5, cells := 0, slots := 0, locals := 122 })).room s m args below meth c A D kC 3 0 0 (MQ below (va_Qi post (jr_B D kC (kT cI cII cL cJ) (kW cI cII cL ad K F fr) A) A) args s 0 0 A) (kW cI cII cL ad K F fr st) 32 [(0, .ref (ad 2)), (1, .int x1), (2, .int x2)] [] := by
          intro n
          induction n with
          | zero => intro st x1 x2 h; exact h.elim
          | succ n ih =>
            intro st x1 x2 h
            unfold wp_Te_featureAt_32 at h
            refine jr_iload_n (q := 2) C dTe_featureAt_32 rfl rfl ?_
            refine jr_aload_n (q := 0) C dTe_featureAt_33 rfl rfl ?_
            refine jr_getf (k := 0) C dTe_featureAt_34 inw_Te (rfl : kC[2]? = _) (by decide) (List.mem_cons_of_mem _ tm1_69) rfl kA_2 rfl ?_
            refine jr_getf (k := 0) C dTe_featureAt_37 inw_Ex (rfl : kC[1]? = _) (by decide) (List.mem_cons_of_mem _ tm1_37) rfl kA_1 rfl ?_
            refine jr_icmp_ge (tgt := 60) C dTe_featureAt_40 (by decide) (fun z => ?_) (fun z => ?_)
            · have h := h.1 z
              refine jr_iconst (v := -1) C dTe_featureAt_60 (by decide) ?_
              exact jr_reti C hr hlocks dTe_featureAt_61 h rfl
            · have h := h.2 z
              refine jr_aload_n (q := 0) C dTe_featureAt_43 rfl rfl ?_
              refine jr_iload_n (q := 2) C dTe_featureAt_44 rfl rfl ?_
              refine jr_callVi (As := [.int x2]) (rest := []) C (c_Te_countBefore h) (cwV 1 C.2.2.2.2.1 (tg_V tm2_199 tm2_201 tp_8 tm1_4 tm2_202) rfl rfl rfl ⟨rfl, by decide, by decide, by decide⟩ ⟨Nat.le_of_ble_eq_true rfl, Nat.le_of_ble_eq_true rfl⟩) dTe_featureAt_45 (rfl : kC[2]? = _) kA_2 rfl rfl (Nat.le_of_ble_eq_true rfl) ⟨Nat.le_of_ble_eq_true rfl, Nat.le_of_ble_eq_true rfl⟩ (fun r2 st1 h => ?_)
              refine jr_iload_n (q := 1) C dTe_featureAt_48 rfl rfl ?_
              refine jr_icmp_ne (tgt := 54) C dTe_featureAt_49 (by decide) (fun z => ?_) (fun z => ?_)
              · have h := h.1 z
                refine jr_iinc (q := 2) (v := (x2 + (1 : Int32))) (lv' := [(2, .int (x2 + (1 : Int32))), (0, .ref (ad 2)), (1, .int x1)]) C dTe_featureAt_54 rfl rfl (by decide) rfl ?_
                refine jr_goto (tgt := 32) C dTe_featureAt_57 (by decide) ?_
                refine jr_lv (lv' := [(0, .ref (ad 2)), (1, .int x1), (2, .int (x2 + (1 : Int32)))]) [1, 2, 0] rfl ?_
                exact ih st1 x1 (x2 + (1 : Int32)) h
              · have h := h.2 z
                refine jr_iload_n (q := 2) C dTe_featureAt_52 rfl rfl ?_
                exact jr_reti C hr hlocks dTe_featureAt_53 h rfl
        obtain ⟨n4, h⟩ := h
        refine jr_lv (lv' := [(0, .ref (ad 2)), (1, .int x1), (2, .int (0 : Int32))]) [1, 2, 0] rfl ?_
        exact lp3 n4 st x1 (0 : Int32) h
      · have h := h.2 z
        refine jr_aload_n (q := 0) C dTe_featureAt_13 rfl rfl ?_
        refine jr_getf (k := 4) C dTe_featureAt_14 inw_Te (rfl : kC[2]? = _) (by decide) (List.mem_cons_of_mem _ tm1_73) rfl kA_2 rfl ?_
        refine jr_iload_n (q := 2) C dTe_featureAt_17 rfl rfl ?_
        refine jr_aload_n (q := 0) C dTe_featureAt_18 rfl rfl ?_
        refine jr_iload_n (q := 2) C dTe_featureAt_19 rfl rfl ?_
        refine jr_callVi (As := [.int x2]) (rest := [.int x2, .ref (ad 11)]) C (c_Te_rightBy h) (cwV 1 C.2.2.2.2.1 (tg_V tm2_198 tm2_184 tm2_185 tm1_4 tm2_186) rfl rfl rfl ⟨rfl, by decide, by decide, by decide⟩ ⟨Nat.le_of_ble_eq_true rfl, Nat.le_of_ble_eq_true rfl⟩) dTe_featureAt_20 (rfl : kC[2]? = _) kA_2 rfl rfl (Nat.le_of_ble_eq_true rfl) ⟨Nat.le_of_ble_eq_true rfl, Nat.le_of_ble_eq_true rfl⟩ (fun r7 st6 h => ?_)
        obtain ⟨h8, h⟩ := h
        refine jr_iast (t0 := 0) C dTe_featureAt_23 kA_11 rfl h8 ?_
        refine jr_ws (ws' := kW cI cII cL ad K F fr (jq st6 11 (Int32.toNatClampNeg x2) r7)) (kP_11) ?_
        refine jr_iinc (q := 2) (v := (x2 + (1 : Int32))) (lv' := [(2, .int (x2 + (1 : Int32))), (0, .ref (ad 2)), (1, .int x1)]) C dTe_featureAt_24 rfl rfl (by decide) rfl ?_
        refine jr_goto (tgt := 2) C dTe_featureAt_27 (by decide) ?_
        refine jr_lv (lv' := [(0, .ref (ad 2)), (1, .int x1), (2, .int (x2 + (1 : Int32)))]) [1, 2, 0] rfl ?_
        exact ih (jq st6 11 (Int32.toNatClampNeg x2) r7) x1 (x2 + (1 : Int32)) h
  obtain ⟨n10, h⟩ := h
  refine jr_lv (lv' := [(0, .ref (ad 2)), (1, .int l1), (2, .int (0 : Int32))]) [1, 2, 0] rfl ?_
  exact lp9 n10 st l1 (0 : Int32) h
end KT
end
section
section KT
variable {l : Launch} {D : va_G} {cI cII cL cJ : ClassId} {ad sa : Nat → Nat} {K F : Nat} {fr : va_W}
def wp_Ha_add (K F : Nat) (st : jS) (l1 : Int32) (l2 : Int32) (post : Int32 → jS → Prop) : Prop :=
  vp_in (st 3 4) 12 ∧ vp_in ((jq st 12 (Int32.toNatClampNeg (st 3 4)) l1) 3 4) 12 ∧ post (((jq (jq (jq st 12 (Int32.toNatClampNeg (st 3 4)) l1) 13 (Int32.toNatClampNeg ((jq st 12 (Int32.toNatClampNeg (st 3 4)) l1) 3 4)) l2) 3 4 (((jq (jq st 12 (Int32.toNatClampNeg (st 3 4)) l1) 13 (Int32.toNatClampNeg ((jq st 12 (Int32.toNatClampNeg (st 3 4)) l1) 3 4)) l2) 3 4) + (1 : Int32))) 3 4) - (1 : Int32)) (jq (jq (jq st 12 (Int32.toNatClampNeg (st 3 4)) l1) 13 (Int32.toNatClampNeg ((jq st 12 (Int32.toNatClampNeg (st 3 4)) l1) 3 4)) l2) 3 4 (((jq (jq st 12 (Int32.toNatClampNeg (st 3 4)) l1) 13 (Int32.toNatClampNeg ((jq st 12 (Int32.toNatClampNeg (st 3 4)) l1) 3 4)) l2) 3 4) + (1 : Int32)))
set_option maxRecDepth 100000 in
set_option maxHeartbeats 4000000 in
theorem c_Ha_add {st : jS} {l1 : Int32} {l2 : Int32} {post : Int32 → jS → Prop} (h : wp_Ha_add K F st l1 l2 post) : jr_Mi l yHa_add wHa_add ({ frames := 0, cells := 0, slots := 0, locals := 0 }) [.ref (ad 3), .int l1, .int l2] D kC (kT cI cII cL cJ) (kW cI cII cL ad K F fr st) (kW cI cII cL ad K F fr) post := by
  refine jr_ofi (cc := bHa_add) (nL := 3) (lv := [(0, .ref (ad 3)), (1, .int l1), (2, .int l2)]) (by decide) rfl (Nat.le_of_ble_eq_true rfl) rfl (fun p e s m args below meth c A C hr hlocks => ?_)
  unfold wp_Ha_add at h
  refine jr_aload_n (q := 0) C dHa_add_0 rfl rfl ?_
  refine jr_getf (k := 1) C dHa_add_1 inw_Ha (rfl : kC[3]? = _) (by decide) (List.mem_cons_of_mem _ tm1_97) rfl kA_3 rfl ?_
  refine jr_aload_n (q := 0) C dHa_add_4 rfl rfl ?_
  refine jr_getf (k := 4) C dHa_add_5 inw_Ha (rfl : kC[3]? = _) (by decide) (List.mem_cons_of_mem _ tm1_101) rfl kA_3 rfl ?_
  refine jr_iload_n (q := 1) C dHa_add_8 rfl rfl ?_
  obtain ⟨h1, h⟩ := h
  refine jr_iast (t0 := 0) C dHa_add_9 kA_12 rfl h1 ?_
  refine jr_ws (ws' := kW cI cII cL ad K F fr (jq st 12 (Int32.toNatClampNeg (st 3 4)) l1)) (kP_12) ?_
  refine jr_aload_n (q := 0) C dHa_add_10 rfl rfl ?_
  refine jr_getf (k := 2) C dHa_add_11 inw_Ha (rfl : kC[3]? = _) (by decide) (List.mem_cons_of_mem _ tm1_98) rfl kA_3 rfl ?_
  refine jr_aload_n (q := 0) C dHa_add_14 rfl rfl ?_
  refine jr_getf (k := 4) C dHa_add_15 inw_Ha (rfl : kC[3]? = _) (by decide) (List.mem_cons_of_mem _ tm1_101) rfl kA_3 rfl ?_
  refine jr_iload_n (q := 2) C dHa_add_18 rfl rfl ?_
  obtain ⟨h2, h⟩ := h
  refine jr_iast (t0 := 0) C dHa_add_19 kA_13 rfl h2 ?_
  refine jr_ws (ws' := kW cI cII cL ad K F fr (jq (jq st 12 (Int32.toNatClampNeg (st 3 4)) l1) 13 (Int32.toNatClampNeg ((jq st 12 (Int32.toNatClampNeg (st 3 4)) l1) 3 4)) l2)) (kP_13) ?_
  refine jr_aload_n (q := 0) C dHa_add_20 rfl rfl ?_
  refine jr_dup C dHa_add_21 rfl ?_
  refine jr_getf (k := 4) C dHa_add_22 inw_Ha (rfl : kC[3]? = _) (by decide) (List.mem_cons_of_mem _ tm1_101) rfl kA_3 rfl ?_
  refine jr_iconst (v := 1) C dHa_add_25 (by decide) ?_
  refine jr_iadd C dHa_add_26 ?_
  refine jr_putf (k := 4) C dHa_add_27 inw_Ha ty_Ha ty_Ha_ok nm_Ha (rfl : kC[3]? = _) (by decide) (List.mem_cons_of_mem _ tm1_101) rfl rfl (ty := .int) rfl rfl rfl kA_3 (Nat.le_of_ble_eq_true rfl) ?_
  refine jr_ws (ws' := kW cI cII cL ad K F fr (jq (jq (jq st 12 (Int32.toNatClampNeg (st 3 4)) l1) 13 (Int32.toNatClampNeg ((jq st 12 (Int32.toNatClampNeg (st 3 4)) l1) 3 4)) l2) 3 4 (((jq (jq st 12 (Int32.toNatClampNeg (st 3 4)) l1) 13 (Int32.toNatClampNeg ((jq st 12 (Int32.toNatClampNeg (st 3 4)) l1) 3 4)) l2) 3 4) + (1 : Int32)))) (kP_3) ?_
  refine jr_aload_n (q := 0) C dHa_add_30 rfl rfl ?_
  refine jr_getf (k := 4) C dHa_add_31 inw_Ha (rfl : kC[3]? = _) (by decide) (List.mem_cons_of_mem _ tm1_101) rfl kA_3 rfl ?_
  refine jr_iconst (v := 1) C dHa_add_34 (by decide) ?_
  refine jr_isub C dHa_add_35 ?_
  exact jr_reti C hr hlocks dHa_add_36 h rfl
def wp_Ha_allGrams_4 (K F : Nat) (post : Int32 → jS → Prop) : Nat → jS → Int32 → Int32 → Int32 → Prop
  | 0 => fun _ _ _ _ => False
  | n + 1 => fun st x1 x2 x3 => (((st 3 0) ≤ x3 → post x2 st) ∧ (¬ (st 3 0) ≤ x3 → vp_in x1 12 ∧ vp_in x3 K ∧ wp_Ha_allGrams_4 K F post n st x1 (x2 + (st (39 + (Int32.toNatClampNeg x1)) (Int32.toNatClampNeg x3))) (x3 + (1 : Int32))))
def wp_Ha_allGrams (K F : Nat) (st : jS) (l1 : Int32) (post : Int32 → jS → Prop) : Prop :=
  (∃ n5, wp_Ha_allGrams_4 K F post n5 st l1 (0 : Int32) (0 : Int32))
set_option maxRecDepth 100000 in
set_option maxHeartbeats 4000000 in
theorem c_Ha_allGrams {st : jS} {l1 : Int32} {post : Int32 → jS → Prop} (h : wp_Ha_allGrams K F st l1 post) : jr_Mi l yHa_allGrams wHa_allGrams ({ frames := 0, cells := 0, slots := 0, locals := 0 }) [.ref (ad 3), .int l1] D kC (kT cI cII cL cJ) (kW cI cII cL ad K F fr st) (kW cI cII cL ad K F fr) post := by
  refine jr_ofi (cc := bHa_allGrams) (nL := 4) (lv := [(0, .ref (ad 3)), (1, .int l1)]) (by decide) rfl (Nat.le_of_ble_eq_true rfl) rfl (fun p e s m args below meth c A C hr hlocks => ?_)
  unfold wp_Ha_allGrams at h
  refine jr_iconst (v := 0) C dHa_allGrams_0 (by decide) ?_
  refine jr_istore_n (lv' := [(2, .int (0 : Int32)), (0, .ref (ad 3)), (1, .int l1)]) C dHa_allGrams_1 rfl (by decide) rfl ?_
  refine jr_iconst (v := 0) C dHa_allGrams_2 (by decide) ?_
  refine jr_istore_n (lv' := [(3, .int (0 : Int32)), (2, .int (0 : Int32)), (0, .ref (ad 3)), (1, .int l1)]) C dHa_allGrams_3 rfl (by decide) rfl ?_
  have lp3 : ∀ (n : Nat) (st : jS) (x1 : Int32) (x2 : Int32) (x3 : Int32), wp_Ha_allGrams_4 K F post n st x1 x2 x3 → jr_J p l e (headSpec wHa_allGrams ({ frames := 0, cells := 0, slots := 0, locals := 0 })).room s m args below meth c A D kC 4 0 0 (MQ below (va_Qi post (jr_B D kC (kT cI cII cL cJ) (kW cI cII cL ad K F fr) A) A) args s 0 0 A) (kW cI cII cL ad K F fr st) 4 [(0, .ref (ad 3)), (1, .int x1), (2, .int x2), (3, .int x3)] [] := by
    intro n
    induction n with
    | zero => intro st x1 x2 x3 h; exact h.elim
    | succ n ih =>
      intro st x1 x2 x3 h
      unfold wp_Ha_allGrams_4 at h
      refine jr_iload_n (q := 3) C dHa_allGrams_4 rfl rfl ?_
      refine jr_aload_n (q := 0) C dHa_allGrams_5 rfl rfl ?_
      refine jr_getf (k := 0) C dHa_allGrams_6 inw_Ha (rfl : kC[3]? = _) (by decide) (List.mem_cons_of_mem _ tm1_96) rfl kA_3 rfl ?_
      refine jr_icmp_ge (tgt := 29) C dHa_allGrams_9 (by decide) (fun z => ?_) (fun z => ?_)
      · have h := h.1 z
        refine jr_iload_n (q := 2) C dHa_allGrams_29 rfl rfl ?_
        exact jr_reti C hr hlocks dHa_allGrams_30 h rfl
      · have h := h.2 z
        refine jr_iload_n (q := 2) C dHa_allGrams_12 rfl rfl ?_
        refine jr_aload_n (q := 0) C dHa_allGrams_13 rfl rfl ?_
        refine jr_getf (k := 3) C dHa_allGrams_14 inw_Ha (rfl : kC[3]? = _) (by decide) (List.mem_cons_of_mem _ tm1_99) rfl kA_3 rfl ?_
        refine jr_iload_n (q := 1) C dHa_allGrams_17 rfl rfl ?_
        obtain ⟨h1, h⟩ := h
        refine jr_alda (t0 := 1) C dHa_allGrams_18 kA_14 rfl h1 (kE_cat h1) ?_
        refine jr_iload_n (q := 3) C dHa_allGrams_19 rfl rfl ?_
        obtain ⟨h2, h⟩ := h
        refine jr_iald (t0 := 0) C dHa_allGrams_20 (kA_rowcat h1) rfl h2 ?_
        refine jr_iadd C dHa_allGrams_21 ?_
        refine jr_istore_n (lv' := [(2, .int (x2 + (st (39 + (Int32.toNatClampNeg x1)) (Int32.toNatClampNeg x3)))), (0, .ref (ad 3)), (1, .int x1), (3, .int x3)]) C dHa_allGrams_22 rfl (by decide) rfl ?_
        refine jr_iinc (q := 3) (v := (x3 + (1 : Int32))) (lv' := [(3, .int (x3 + (1 : Int32))), (2, .int (x2 + (st (39 + (Int32.toNatClampNeg x1)) (Int32.toNatClampNeg x3)))), (0, .ref (ad 3)), (1, .int x1)]) C dHa_allGrams_23 rfl rfl (by decide) rfl ?_
        refine jr_goto (tgt := 4) C dHa_allGrams_26 (by decide) ?_
        refine jr_lv (lv' := [(0, .ref (ad 3)), (1, .int x1), (2, .int (x2 + (st (39 + (Int32.toNatClampNeg x1)) (Int32.toNatClampNeg x3)))), (3, .int (x3 + (1 : Int32)))]) [2, 3, 1, 0] rfl ?_
        exact ih st x1 (x2 + (st (39 + (Int32.toNatClampNeg x1)) (Int32.toNatClampNeg x3))) (x3 + (1 : Int32)) h
  obtain ⟨n4, h⟩ := h
  refine jr_lv (lv' := [(0, .ref (ad 3)), (1, .int l1), (2, .int (0 : Int32)), (3, .int (0 : Int32))]) [2, 3, 1, 0] rfl ?_
  exact lp3 n4 st l1 (0 : Int32) (0 : Int32) h
def wp_Ha_squareTo (K F : Nat) (st : jS) (l1 : Int32) (l2 : Int32) (l3 : Int32) (post : Int32 → jS → Prop) : Prop :=
  vp_in l1 12 ∧ wp_KT_square K F st ((st 12 (Int32.toNatClampNeg l1)) - l2) (fun r3 st2 => vp_in l1 12 ∧ wp_KT_square K F st2 ((st2 13 (Int32.toNatClampNeg l1)) - l3) (fun r6 st5 => post (r3 + r6) st5))
set_option maxRecDepth 100000 in
set_option maxHeartbeats 4000000 in
theorem c_Ha_squareTo {st : jS} {l1 : Int32} {l2 : Int32} {l3 : Int32} {post : Int32 → jS → Prop} (h : wp_Ha_squareTo K F st l1 l2 l3 post) : jr_Mi l yHa_squareTo wHa_squareTo ({ frames := 1, cells := 0, slots := 0, locals := 20 }) [.ref (ad 3), .int l1, .int l2, .int l3] D kC (kT cI cII cL cJ) (kW cI cII cL ad K F fr st) (kW cI cII cL ad K F fr) post := by
  refine jr_ofi (cc := bHa_squareTo) (nL := 4) (lv := [(0, .ref (ad 3)), (1, .int l1), (2, .int l2), (3, .int l3)]) (by decide) rfl (Nat.le_of_ble_eq_true rfl) rfl (fun p e s m args below meth c A C hr hlocks => ?_)
  unfold wp_Ha_squareTo at h
  refine jr_aload_n (q := 0) C dHa_squareTo_0 rfl rfl ?_
  refine jr_getf (k := 1) C dHa_squareTo_1 inw_Ha (rfl : kC[3]? = _) (by decide) (List.mem_cons_of_mem _ tm1_97) rfl kA_3 rfl ?_
  refine jr_iload_n (q := 1) C dHa_squareTo_4 rfl rfl ?_
  obtain ⟨h1, h⟩ := h
  refine jr_iald (t0 := 0) C dHa_squareTo_5 kA_12 rfl h1 ?_
  refine jr_iload_n (q := 2) C dHa_squareTo_6 rfl rfl ?_
  refine jr_isub C dHa_squareTo_7 ?_
  refine jr_callSNi (As := [.int ((st 12 (Int32.toNatClampNeg l1)) - l2)]) (rest := []) C (c_KT_square h) ⟨va_cnB 1 C.2.2.2.2.1 (tg_N tm3_12) rfl rfl rfl (C.2.2.2.2.2.2.2 _ (List.mem_of_getElem? (i := 10) rfl)) (C.2.2.2.2.1 _ (List.mem_cons_of_mem _ tm1_1)) ⟨by decide, by decide, by decide⟩ ⟨Nat.le_of_ble_eq_true rfl, Nat.le_of_ble_eq_true rfl⟩, C.2.2.2.2.1 _ (List.mem_cons_of_mem _ tm3_11), trivial⟩ dHa_squareTo_8 rfl rfl (Nat.le_of_ble_eq_true rfl) ⟨Nat.le_of_ble_eq_true rfl, Nat.le_of_ble_eq_true rfl⟩ (fun r3 st2 h => ?_)
  refine jr_aload_n (q := 0) C dHa_squareTo_11 rfl rfl ?_
  refine jr_getf (k := 2) C dHa_squareTo_12 inw_Ha (rfl : kC[3]? = _) (by decide) (List.mem_cons_of_mem _ tm1_98) rfl kA_3 rfl ?_
  refine jr_iload_n (q := 1) C dHa_squareTo_15 rfl rfl ?_
  obtain ⟨h4, h⟩ := h
  refine jr_iald (t0 := 0) C dHa_squareTo_16 kA_13 rfl h4 ?_
  refine jr_iload_n (q := 3) C dHa_squareTo_17 rfl rfl ?_
  refine jr_isub C dHa_squareTo_18 ?_
  refine jr_callSNi (As := [.int ((st2 13 (Int32.toNatClampNeg l1)) - l3)]) (rest := [.int r3]) C (c_KT_square h) ⟨va_cnB 1 C.2.2.2.2.1 (tg_N tm3_12) rfl rfl rfl (C.2.2.2.2.2.2.2 _ (List.mem_of_getElem? (i := 10) rfl)) (C.2.2.2.2.1 _ (List.mem_cons_of_mem _ tm1_1)) ⟨by decide, by decide, by decide⟩ ⟨Nat.le_of_ble_eq_true rfl, Nat.le_of_ble_eq_true rfl⟩, C.2.2.2.2.1 _ (List.mem_cons_of_mem _ tm3_11), trivial⟩ dHa_squareTo_19 rfl rfl (Nat.le_of_ble_eq_true rfl) ⟨Nat.le_of_ble_eq_true rfl, Nat.le_of_ble_eq_true rfl⟩ (fun r6 st5 h => ?_)
  refine jr_iadd C dHa_squareTo_22 ?_
  exact jr_reti C hr hlocks dHa_squareTo_23 h rfl
def wp_Ha_nearestFilled_9 (K F : Nat) (post : Int32 → jS → Prop) : Nat → jS → Int32 → Int32 → Int32 → Int32 → Int32 → Int32 → Prop
  | 0 => fun _ _ _ _ _ _ _ => False
  | n + 1 => fun st x1 x2 x3 x4 x5 x6 => (((st 3 4) ≤ x6 → post x4 st) ∧ (¬ (st 3 4) ≤ x6 → ((x6 = x3 → wp_Ha_nearestFilled_9 K F post n st x1 x2 x3 x4 x5 (x6 + (1 : Int32))) ∧ (¬ x6 = x3 → wp_Ha_allGrams K F st x6 (fun r2 st1 => ((r2 ≤ 0 → wp_Ha_nearestFilled_9 K F post n st1 x1 x2 x3 x4 x5 (x6 + (1 : Int32))) ∧ (¬ r2 ≤ 0 → wp_Ha_squareTo K F st1 x6 x1 x2 (fun r4 st3 => ((x4 = (-1 : Int32) → wp_Ha_nearestFilled_9 K F post n st3 x1 x2 x3 x6 r4 (x6 + (1 : Int32))) ∧ (¬ x4 = (-1 : Int32) → ((x5 ≤ r4 → wp_Ha_nearestFilled_9 K F post n st3 x1 x2 x3 x4 x5 (x6 + (1 : Int32))) ∧ (¬ x5 ≤ r4 → wp_Ha_nearestFilled_9 K F post n st3 x1 x2 x3 x6 r4 (x6 + (1 : Int32))))))))))))))
def wp_Ha_nearestFilled (K F : Nat) (st : jS) (l1 : Int32) (l2 : Int32) (l3 : Int32) (post : Int32 → jS → Prop) : Prop :=
  (∃ n7, wp_Ha_nearestFilled_9 K F post n7 st l1 l2 l3 (-1 : Int32) (0 : Int32) (0 : Int32))
set_option maxRecDepth 100000 in
set_option maxHeartbeats 4000000 in
theorem c_Ha_nearestFilled {st : jS} {l1 : Int32} {l2 : Int32} {l3 : Int32} {post : Int32 → jS → Prop} (h : wp_Ha_nearestFilled K F st l1 l2 l3 post) : jr_Mi l yHa_nearestFilled wHa_nearestFilled ({ frames := 2, cells := 0, slots := 0, locals := 43 }) [.ref (ad 3), .int l1, .int l2, .int l3] D kC (kT cI cII cL cJ) (kW cI cII cL ad K F fr st) (kW cI cII cL ad K F fr) post := by
  refine jr_ofi (cc := bHa_nearestFilled) (nL := 8) (lv := [(0, .ref (ad 3)), (1, .int l1), (2, .int l2), (3, .int l3)]) (by decide) rfl (Nat.le_of_ble_eq_true rfl) rfl (fun p e s m args below meth c A C hr hlocks => ?_)
  unfold wp_Ha_nearestFilled at h
  refine jr_iconst (v := -1) C dHa_nearestFilled_0 (by decide) ?_
  refine jr_istore (lv' := [(4, .int (-1 : Int32)), (0, .ref (ad 3)), (1, .int l1), (2, .int l2), (3, .int l3)]) C dHa_nearestFilled_1 (by decide) rfl ?_
  refine jr_iconst (v := 0) C dHa_nearestFilled_3 (by decide) ?_
  refine jr_istore (lv' := [(5, .int (0 : Int32)), (4, .int (-1 : Int32)), (0, .ref (ad 3)), (1, .int l1), (2, .int l2), (3, .int l3)]) C dHa_nearestFilled_4 (by decide) rfl ?_
  refine jr_iconst (v := 0) C dHa_nearestFilled_6 (by decide) ?_
  refine jr_istore (lv' := [(6, .int (0 : Int32)), (5, .int (0 : Int32)), (4, .int (-1 : Int32)), (0, .ref (ad 3)), (1, .int l1), (2, .int l2), (3, .int l3)]) C dHa_nearestFilled_7 (by decide) rfl ?_
  have lp5 : ∀ (n : Nat) (st : jS) (x1 : Int32) (x2 : Int32) (x3 : Int32) (x4 : Int32) (x5 : Int32) (x6 : Int32), wp_Ha_nearestFilled_9 K F post n st x1 x2 x3 x4 x5 x6 → jr_J p l e (headSpec wHa_nearestFilled ({ frames := 2, cells := 0, slots := 0, locals := 43 })).room s m args below meth c A D kC 8 0 0 (MQ below (va_Qi post (jr_B D kC (kT cI cII cL cJ) (kW cI cII cL ad K F fr) A) A) args s 0 0 A) (kW cI cII cL ad K F fr st) 9 [(0, .ref (ad 3)), (1, .int x1), (2, .int x2), (3, .int x3), (4, .int x4), (5, .int x5), (6, .int x6)] [] := by
    intro n
    induction n with
    | zero => intro st x1 x2 x3 x4 x5 x6 h; exact h.elim
    | succ n ih =>
      intro st x1 x2 x3 x4 x5 x6 h
      unfold wp_Ha_nearestFilled_9 at h
      refine jr_iload (q := 6) C dHa_nearestFilled_9 rfl ?_
      refine jr_aload_n (q := 0) C dHa_nearestFilled_11 rfl rfl ?_
      refine jr_getf (k := 4) C dHa_nearestFilled_12 inw_Ha (rfl : kC[3]? = _) (by decide) (List.mem_cons_of_mem _ tm1_101) rfl kA_3 rfl ?_
      refine jr_icmp_ge (tgt := 70) C dHa_nearestFilled_15 (by decide) (fun z => ?_) (fun z => ?_)
      · have h := h.1 z
        refine jr_iload (q := 4) C dHa_nearestFilled_70 rfl ?_
        exact jr_reti C hr hlocks dHa_nearestFilled_72 h rfl
      · have h := h.2 z
        refine jr_iload (q := 6) C dHa_nearestFilled_18 rfl ?_
        refine jr_iload_n (q := 3) C dHa_nearestFilled_20 rfl rfl ?_
        refine jr_icmp_eq (tgt := 64) C dHa_nearestFilled_21 (by decide) (fun z => ?_) (fun z => ?_)
        · have h := h.1 z
          refine jr_iinc (q := 6) (v := (x6 + (1 : Int32))) (lv' := [(6, .int (x6 + (1 : Int32))), (0, .ref (ad 3)), (1, .int x1), (2, .int x2), (3, .int x3), (4, .int x4), (5, .int x5)]) C dHa_nearestFilled_64 rfl rfl (by decide) rfl ?_
          refine jr_goto (tgt := 9) C dHa_nearestFilled_67 (by decide) ?_
          refine jr_lv (lv' := [(0, .ref (ad 3)), (1, .int x1), (2, .int x2), (3, .int x3), (4, .int x4), (5, .int x5), (6, .int (x6 + (1 : Int32)))]) [1, 2, 3, 4, 5, 6, 0] rfl ?_
          exact ih st x1 x2 x3 x4 x5 (x6 + (1 : Int32)) h
        · have h := h.2 z
          refine jr_aload_n (q := 0) C dHa_nearestFilled_24 rfl rfl ?_
          refine jr_iload (q := 6) C dHa_nearestFilled_25 rfl ?_
          refine jr_callVi (As := [.int x6]) (rest := []) C (c_Ha_allGrams h) (cwV 1 C.2.2.2.2.1 (tg_V tm3_63 tm3_65 tp_14 tm1_5 tm3_66) rfl rfl rfl ⟨rfl, by decide, by decide, by decide⟩ ⟨Nat.le_of_ble_eq_true rfl, Nat.le_of_ble_eq_true rfl⟩) dHa_nearestFilled_27 (rfl : kC[3]? = _) kA_3 rfl rfl (Nat.le_of_ble_eq_true rfl) ⟨Nat.le_of_ble_eq_true rfl, Nat.le_of_ble_eq_true rfl⟩ (fun r2 st1 h => ?_)
          refine jr_if_le (tgt := 64) C dHa_nearestFilled_30 (by decide) (fun z => ?_) (fun z => ?_)
          · have h := h.1 z
            refine jr_iinc (q := 6) (v := (x6 + (1 : Int32))) (lv' := [(6, .int (x6 + (1 : Int32))), (0, .ref (ad 3)), (1, .int x1), (2, .int x2), (3, .int x3), (4, .int x4), (5, .int x5)]) C dHa_nearestFilled_64 rfl rfl (by decide) rfl ?_
            refine jr_goto (tgt := 9) C dHa_nearestFilled_67 (by decide) ?_
            refine jr_lv (lv' := [(0, .ref (ad 3)), (1, .int x1), (2, .int x2), (3, .int x3), (4, .int x4), (5, .int x5), (6, .int (x6 + (1 : Int32)))]) [1, 2, 3, 4, 5, 6, 0] rfl ?_
            exact ih st1 x1 x2 x3 x4 x5 (x6 + (1 : Int32)) h
          · have h := h.2 z
            refine jr_aload_n (q := 0) C dHa_nearestFilled_33 rfl rfl ?_
            refine jr_iload (q := 6) C dHa_nearestFilled_34 rfl ?_
            refine jr_iload_n (q := 1) C dHa_nearestFilled_36 rfl rfl ?_
            refine jr_iload_n (q := 2) C dHa_nearestFilled_37 rfl rfl ?_
            refine jr_callVi (As := [.int x6, .int x1, .int x2]) (rest := []) C (c_Ha_squareTo h) (cwV 3 C.2.2.2.2.1 (tg_V tm3_67 tm3_69 tp_15 tm1_5 tm3_70) rfl rfl rfl ⟨rfl, by decide, by decide, by decide⟩ ⟨Nat.le_of_ble_eq_true rfl, Nat.le_of_ble_eq_true rfl⟩) dHa_nearestFilled_38 (rfl : kC[3]? = _) kA_3 rfl rfl (Nat.le_of_ble_eq_true rfl) ⟨Nat.le_of_ble_eq_true rfl, Nat.le_of_ble_eq_true rfl⟩ (fun r4 st3 h => ?_)
            refine jr_istore (lv' := [(7, .int r4), (0, .ref (ad 3)), (1, .int x1), (2, .int x2), (3, .int x3), (4, .int x4), (5, .int x5), (6, .int x6)]) C dHa_nearestFilled_41 (by decide) rfl ?_
            refine jr_iload (q := 5) C dHa_nearestFilled_43 rfl ?_
            refine jr_iconst (v := -1) C dHa_nearestFilled_45 (by decide) ?_
            refine jr_icmp_eq (tgt := 56) C dHa_nearestFilled_46 (by decide) (fun z => ?_) (fun z => ?_)
            · have h := h.1 z
              refine jr_iload (q := 7) C dHa_nearestFilled_56 rfl ?_
              refine jr_istore (lv' := [(4, .int x6), (7, .int r4), (0, .ref (ad 3)), (1, .int x1), (2, .int x2), (3, .int x3), (5, .int x5), (6, .int x6)]) C dHa_nearestFilled_58 (by decide) rfl ?_
              refine jr_iload (q := 1) C dHa_nearestFilled_60 rfl ?_
              refine jr_istore (lv' := [(5, .int r4), (4, .int x6), (7, .int r4), (0, .ref (ad 3)), (1, .int x1), (2, .int x2), (3, .int x3), (6, .int x6)]) C dHa_nearestFilled_62 (by decide) rfl ?_
              refine jr_iinc (q := 7) (v := (x6 + (1 : Int32))) (lv' := [(6, .int (x6 + (1 : Int32))), (5, .int r4), (4, .int x6), (7, .int r4), (0, .ref (ad 3)), (1, .int x1), (2, .int x2), (3, .int x3)]) C dHa_nearestFilled_64 rfl rfl (by decide) rfl ?_
              refine jr_goto (tgt := 9) C dHa_nearestFilled_67 (by decide) ?_
              refine jr_lv (lv' := [(0, .ref (ad 3)), (1, .int x1), (2, .int x2), (3, .int x3), (4, .int x6), (5, .int r4), (6, .int (x6 + (1 : Int32)))]) [4, 5, 6, 7, 2, 1, 0] rfl ?_
              exact ih st3 x1 x2 x3 x6 r4 (x6 + (1 : Int32)) h
            · have h := h.2 z
              refine jr_iload (q := 0) C dHa_nearestFilled_49 rfl ?_
              refine jr_iload (q := 6) C dHa_nearestFilled_51 rfl ?_
              refine jr_icmp_ge (tgt := 64) C dHa_nearestFilled_53 (by decide) (fun z => ?_) (fun z => ?_)
              · have h := h.1 z
                refine jr_iinc (q := 7) (v := (x6 + (1 : Int32))) (lv' := [(6, .int (x6 + (1 : Int32))), (7, .int r4), (0, .ref (ad 3)), (1, .int x1), (2, .int x2), (3, .int x3), (4, .int x4), (5, .int x5)]) C dHa_nearestFilled_64 rfl rfl (by decide) rfl ?_
                refine jr_goto (tgt := 9) C dHa_nearestFilled_67 (by decide) ?_
                refine jr_lv (lv' := [(0, .ref (ad 3)), (1, .int x1), (2, .int x2), (3, .int x3), (4, .int x4), (5, .int x5), (6, .int (x6 + (1 : Int32)))]) [2, 3, 4, 5, 6, 7, 0] rfl ?_
                exact ih st3 x1 x2 x3 x4 x5 (x6 + (1 : Int32)) h
              · have h := h.2 z
                refine jr_iload (q := 7) C dHa_nearestFilled_56 rfl ?_
                refine jr_istore (lv' := [(4, .int x6), (7, .int r4), (0, .ref (ad 3)), (1, .int x1), (2, .int x2), (3, .int x3), (5, .int x5), (6, .int x6)]) C dHa_nearestFilled_58 (by decide) rfl ?_
                refine jr_iload (q := 1) C dHa_nearestFilled_60 rfl ?_
                refine jr_istore (lv' := [(5, .int r4), (4, .int x6), (7, .int r4), (0, .ref (ad 3)), (1, .int x1), (2, .int x2), (3, .int x3), (6, .int x6)]) C dHa_nearestFilled_62 (by decide) rfl ?_
                refine jr_iinc (q := 7) (v := (x6 + (1 : Int32))) (lv' := [(6, .int (x6 + (1 : Int32))), (5, .int r4), (4, .int x6), (7, .int r4), (0, .ref (ad 3)), (1, .int x1), (2, .int x2), (3, .int x3)]) C dHa_nearestFilled_64 rfl rfl (by decide) rfl ?_
                refine jr_goto (tgt := 9) C dHa_nearestFilled_67 (by decide) ?_
                refine jr_lv (lv' := [(0, .ref (ad 3)), (1, .int x1), (2, .int x2), (3, .int x3), (4, .int x6), (5, .int r4), (6, .int (x6 + (1 : Int32)))]) [4, 5, 6, 7, 2, 1, 0] rfl ?_
                exact ih st3 x1 x2 x3 x6 r4 (x6 + (1 : Int32)) h
  obtain ⟨n6, h⟩ := h
  refine jr_lv (lv' := [(0, .ref (ad 3)), (1, .int l1), (2, .int l2), (3, .int l3), (4, .int (-1 : Int32)), (5, .int (0 : Int32)), (6, .int (0 : Int32))]) [3, 4, 5, 6, 2, 1, 0] rfl ?_
  exact lp5 n6 st l1 l2 l3 (-1 : Int32) (0 : Int32) (0 : Int32) h
def wp_KT_commonDivisor_9 (K F : Nat) (post : Int64 → jS → Prop) : Nat → jS → Int64 → Int64 → Int64 → Int64 → Int32 → Prop
  | 0 => fun _ _ _ _ _ _ => False
  | n + 1 => fun st x0 x2 x4 x6 x8 => (((1000 : Int32) ≤ x8 → post x4 st) ∧ (¬ (1000 : Int32) ≤ x8 → (((lg_cmp x6 (0 : Int64)) = 0 → post x4 st) ∧ (¬ (lg_cmp x6 (0 : Int64)) = 0 → (¬ x6 = 0) ∧ wp_KT_commonDivisor_9 K F post n st x0 x2 x6 (x4 - x4 / x6 * x6) (x8 + (1 : Int32))))))
def wp_KT_commonDivisor (K F : Nat) (st : jS) (l0 : Int64) (l2 : Int64) (post : Int64 → jS → Prop) : Prop :=
  (∃ n4, wp_KT_commonDivisor_9 K F post n4 st l0 l2 l0 l2 (0 : Int32))
set_option maxRecDepth 100000 in
set_option maxHeartbeats 4000000 in
theorem c_KT_commonDivisor {st : jS} {l0 : Int64} {l2 : Int64} {post : Int64 → jS → Prop} (h : wp_KT_commonDivisor K F st l0 l2 post) : jr_Ml l yKT_commonDivisor wKT_commonDivisor ({ frames := 0, cells := 0, slots := 0, locals := 0 }) [.long l0, .long l2] D kC (kT cI cII cL cJ) (kW cI cII cL ad K F fr st) (kW cI cII cL ad K F fr) post := by
  refine jr_ofl (cc := bKT_commonDivisor) (nL := 11) (lv := [(0, .long l0), (2, .long l2)]) (by decide) rfl (Nat.le_of_ble_eq_true rfl) rfl (fun p e s m args below meth c A C hr hlocks => ?_)
  unfold wp_KT_commonDivisor at h
  refine jr_lload_n (q := 0) C dKT_commonDivisor_0 rfl rfl ?_
  refine jr_lstore (lv' := [(4, .long l0), (0, .long l0), (2, .long l2)]) C dKT_commonDivisor_1 (by decide) rfl ?_
  refine jr_lload_n (q := 2) C dKT_commonDivisor_3 rfl rfl ?_
  refine jr_lstore (lv' := [(6, .long l2), (4, .long l0), (0, .long l0), (2, .long l2)]) C dKT_commonDivisor_4 (by decide) rfl ?_
  refine jr_iconst (v := 0) C dKT_commonDivisor_6 (by decide) ?_
  refine jr_istore (lv' := [(8, .int (0 : Int32)), (6, .long l2), (4, .long l0), (0, .long l0), (2, .long l2)]) C dKT_commonDivisor_7 (by decide) rfl ?_
  have lp2 : ∀ (n : Nat) (st : jS) (x0 : Int64) (x2 : Int64) (x4 : Int64) (x6 : Int64) (x8 : Int32), wp_KT_commonDivisor_9 K F post n st x0 x2 x4 x6 x8 → jr_J p l e (headSpec wKT_commonDivisor ({ frames := 0, cells := 0, slots := 0, locals := 0 })).room s m args below meth c A D kC 11 0 0 (MQ below (va_Ql post (jr_B D kC (kT cI cII cL cJ) (kW cI cII cL ad K F fr) A) A) args s 0 0 A) (kW cI cII cL ad K F fr st) 9 [(0, .long x0), (2, .long x2), (4, .long x4), (6, .long x6), (8, .int x8)] [] := by
    intro n
    induction n with
    | zero => intro st x0 x2 x4 x6 x8 h; exact h.elim
    | succ n ih =>
      intro st x0 x2 x4 x6 x8 h
      unfold wp_KT_commonDivisor_9 at h
      refine jr_iload (q := 4) C dKT_commonDivisor_9 rfl ?_
      refine jr_sipush (v := 1000) C dKT_commonDivisor_11 (by decide) ?_
      refine jr_icmp_ge (tgt := 45) C dKT_commonDivisor_14 (by decide) (fun z => ?_) (fun z => ?_)
      · have h := h.1 z
        refine jr_lload (q := 2) C dKT_commonDivisor_45 rfl ?_
        exact jr_retl C hr hlocks dKT_commonDivisor_47 h rfl
      · have h := h.2 z
        refine jr_lload (q := 3) C dKT_commonDivisor_17 rfl ?_
        refine jr_lconst (v := 0) C dKT_commonDivisor_19 (by decide) ?_
        refine jr_lcmp C dKT_commonDivisor_20 ?_
        refine jr_if_eq (tgt := 45) C dKT_commonDivisor_21 (by decide) (fun z => ?_) (fun z => ?_)
        · have h := h.1 z
          refine jr_lload (q := 2) C dKT_commonDivisor_45 rfl ?_
          exact jr_retl C hr hlocks dKT_commonDivisor_47 h rfl
        · have h := h.2 z
          refine jr_lload (q := 2) C dKT_commonDivisor_24 rfl ?_
          refine jr_lload (q := 3) C dKT_commonDivisor_26 rfl ?_
          obtain ⟨h1, h⟩ := h
          refine jr_lrem C dKT_commonDivisor_28 h1 ?_
          refine jr_lstore (lv' := [(9, .long (x4 - x4 / x6 * x6)), (0, .long x0), (2, .long x2), (4, .long x4), (6, .long x6), (8, .int x8)]) C dKT_commonDivisor_29 (by decide) rfl ?_
          refine jr_lload (q := 4) C dKT_commonDivisor_31 rfl ?_
          refine jr_lstore (lv' := [(4, .long x6), (9, .long (x4 - x4 / x6 * x6)), (0, .long x0), (2, .long x2), (6, .long x6), (8, .int x8)]) C dKT_commonDivisor_33 (by decide) rfl ?_
          refine jr_lload (q := 1) C dKT_commonDivisor_35 rfl ?_
          refine jr_lstore (lv' := [(6, .long (x4 - x4 / x6 * x6)), (4, .long x6), (9, .long (x4 - x4 / x6 * x6)), (0, .long x0), (2, .long x2), (8, .int x8)]) C dKT_commonDivisor_37 (by decide) rfl ?_
          refine jr_iinc (q := 5) (v := (x8 + (1 : Int32))) (lv' := [(8, .int (x8 + (1 : Int32))), (6, .long (x4 - x4 / x6 * x6)), (4, .long x6), (9, .long (x4 - x4 / x6 * x6)), (0, .long x0), (2, .long x2)]) C dKT_commonDivisor_39 rfl rfl (by decide) rfl ?_
          refine jr_goto (tgt := 9) C dKT_commonDivisor_42 (by decide) ?_
          refine jr_lv (lv' := [(0, .long x0), (2, .long x2), (4, .long x6), (6, .long (x4 - x4 / x6 * x6)), (8, .int (x8 + (1 : Int32)))]) [4, 5, 2, 1, 0] rfl ?_
          exact ih st x0 x2 x6 (x4 - x4 / x6 * x6) (x8 + (1 : Int32)) h
  obtain ⟨n3, h⟩ := h
  refine jr_lv (lv' := [(0, .long l0), (2, .long l2), (4, .long l0), (6, .long l2), (8, .int (0 : Int32))]) [3, 4, 2, 1, 0] rfl ?_
  exact lp2 n3 st l0 l2 l0 l2 (0 : Int32) h
def wp_KT_partOf (K F : Nat) (st : jS) (l0 : Int64) (l2 : Int64) (l4 : Int32) (post : Int64 → jS → Prop) : Prop :=
  wp_KT_commonDivisor K F st l0 l2 (fun r2 st1 => (((lg_cmp l2 (1 : Int64)) < 0 → ((¬ l4 = 0 → post (1 : Int64) st1) ∧ (l4 = 0 → post (0 : Int64) st1))) ∧ (¬ (lg_cmp l2 (1 : Int64)) < 0 → ((0 ≤ (lg_cmp r2 (1 : Int64)) → ((¬ l4 = 0 → (¬ r2 = 0) ∧ post (l2 / r2) st1) ∧ (l4 = 0 → (¬ r2 = 0) ∧ post (l0 / r2) st1))) ∧ (¬ 0 ≤ (lg_cmp r2 (1 : Int64)) → ((¬ l4 = 0 → post (1 : Int64) st1) ∧ (l4 = 0 → post (0 : Int64) st1)))))))
set_option maxRecDepth 100000 in
set_option maxHeartbeats 4000000 in
theorem c_KT_partOf {st : jS} {l0 : Int64} {l2 : Int64} {l4 : Int32} {post : Int64 → jS → Prop} (h : wp_KT_partOf K F st l0 l2 l4 post) : jr_Ml l yKT_partOf wKT_partOf ({ frames := 1, cells := 0, slots := 0, locals := 30 }) [.long l0, .long l2, .int l4] D kC (kT cI cII cL cJ) (kW cI cII cL ad K F fr st) (kW cI cII cL ad K F fr) post := by
  refine jr_ofl (cc := bKT_partOf) (nL := 7) (lv := [(0, .long l0), (2, .long l2), (4, .int l4)]) (by decide) rfl (Nat.le_of_ble_eq_true rfl) rfl (fun p e s m args below meth c A C hr hlocks => ?_)
  unfold wp_KT_partOf at h
  refine jr_lload_n (q := 0) C dKT_partOf_0 rfl rfl ?_
  refine jr_lload_n (q := 1) C dKT_partOf_1 rfl rfl ?_
  refine jr_callSl (As := [.long l0, .long l2]) (rest := []) C (c_KT_commonDivisor h) (va_cwS 2 C.2.2.2.2.1 (tg_S tm2_173 tm2_174 tm1_1 tm2_175) rfl rfl rfl ⟨by decide, by decide, by decide⟩ ⟨Nat.le_of_ble_eq_true rfl, Nat.le_of_ble_eq_true rfl⟩) dKT_partOf_2 rfl rfl (Nat.le_of_ble_eq_true rfl) ⟨Nat.le_of_ble_eq_true rfl, Nat.le_of_ble_eq_true rfl⟩ (fun r2 st1 h => ?_)
  refine jr_lstore (lv' := [(5, .long r2), (0, .long l0), (2, .long l2), (4, .int l4)]) C dKT_partOf_5 (by decide) rfl ?_
  refine jr_lload_n (q := 2) C dKT_partOf_7 rfl rfl ?_
  refine jr_lconst (v := 1) C dKT_partOf_8 (by decide) ?_
  refine jr_lcmp C dKT_partOf_9 ?_
  refine jr_if_lt (tgt := 20) C dKT_partOf_10 (by decide) (fun z => ?_) (fun z => ?_)
  · have h := h.1 z
    refine jr_iload (q := 3) C dKT_partOf_20 rfl ?_
    refine jr_if_ne (tgt := 29) C dKT_partOf_22 (by decide) (fun z => ?_) (fun z => ?_)
    · have h := h.1 z
      refine jr_lconst (v := 1) C dKT_partOf_29 (by decide) ?_
      exact jr_retl C hr hlocks dKT_partOf_30 h rfl
    · have h := h.2 z
      refine jr_lconst (v := 0) C dKT_partOf_25 (by decide) ?_
      refine jr_goto (tgt := 30) C dKT_partOf_26 (by decide) ?_
      exact jr_retl C hr hlocks dKT_partOf_30 h rfl
  · have h := h.2 z
    refine jr_lload (q := 0) C dKT_partOf_13 rfl ?_
    refine jr_lconst (v := 1) C dKT_partOf_15 (by decide) ?_
    refine jr_lcmp C dKT_partOf_16 ?_
    refine jr_if_ge (tgt := 31) C dKT_partOf_17 (by decide) (fun z => ?_) (fun z => ?_)
    · have h := h.1 z
      refine jr_iload (q := 3) C dKT_partOf_31 rfl ?_
      refine jr_if_ne (tgt := 43) C dKT_partOf_33 (by decide) (fun z => ?_) (fun z => ?_)
      · have h := h.1 z
        refine jr_lload_n (q := 2) C dKT_partOf_43 rfl rfl ?_
        refine jr_lload (q := 0) C dKT_partOf_44 rfl ?_
        obtain ⟨h3, h⟩ := h
        refine jr_ldiv C dKT_partOf_46 h3 ?_
        exact jr_retl C hr hlocks dKT_partOf_47 h rfl
      · have h := h.2 z
        refine jr_lload_n (q := 1) C dKT_partOf_36 rfl rfl ?_
        refine jr_lload (q := 0) C dKT_partOf_37 rfl ?_
        obtain ⟨h4, h⟩ := h
        refine jr_ldiv C dKT_partOf_39 h4 ?_
        refine jr_goto (tgt := 47) C dKT_partOf_40 (by decide) ?_
        exact jr_retl C hr hlocks dKT_partOf_47 h rfl
    · have h := h.2 z
      refine jr_iload (q := 3) C dKT_partOf_20 rfl ?_
      refine jr_if_ne (tgt := 29) C dKT_partOf_22 (by decide) (fun z => ?_) (fun z => ?_)
      · have h := h.1 z
        refine jr_lconst (v := 1) C dKT_partOf_29 (by decide) ?_
        exact jr_retl C hr hlocks dKT_partOf_30 h rfl
      · have h := h.2 z
        refine jr_lconst (v := 0) C dKT_partOf_25 (by decide) ?_
        refine jr_goto (tgt := 30) C dKT_partOf_26 (by decide) ?_
        exact jr_retl C hr hlocks dKT_partOf_30 h rfl
def wp_Ha_sharePart (K F : Nat) (st : jS) (l1 : Int32) (l2 : Int32) (l3 : Int32) (l4 : Int32) (post : Int64 → jS → Prop) : Prop :=
  wp_Ha_nearestFilled K F st l1 l2 (-1 : Int32) (fun r2 st1 => ((¬ r2 = (-1 : Int32) → wp_Ha_nearestFilled K F st1 l1 l2 r2 (fun r4 st3 => ((¬ r4 = (-1 : Int32) → wp_Ha_squareTo K F st3 r4 l1 l2 (fun r6 st5 => wp_Ha_squareTo K F st5 r2 l1 l2 (fun r8 st7 => wp_Ha_allGrams K F st7 r2 (fun r10 st9 => wp_Ha_allGrams K F st9 r4 (fun r12 st11 => vp_in r2 12 ∧ vp_in l3 K ∧ vp_in r4 12 ∧ vp_in l3 K ∧ wp_KT_partOf K F st11 ((((Int32.toInt64 (st11 (39 + (Int32.toNatClampNeg r2)) (Int32.toNatClampNeg l3))) * (Int32.toInt64 r12)) * (Int32.toInt64 (r6 + (1 : Int32)))) + (((Int32.toInt64 (st11 (39 + (Int32.toNatClampNeg r4)) (Int32.toNatClampNeg l3))) * (Int32.toInt64 r10)) * (Int32.toInt64 (r8 + (1 : Int32))))) (((Int32.toInt64 r10) * (Int32.toInt64 r12)) * ((Int32.toInt64 (r6 + (1 : Int32))) + (Int32.toInt64 (r8 + (1 : Int32))))) l4 (fun r18 st17 => post r18 st17)))))) ∧ (r4 = (-1 : Int32) → vp_in r2 12 ∧ vp_in l3 K ∧ wp_Ha_allGrams K F st3 r2 (fun r22 st21 => wp_KT_partOf K F st21 (Int32.toInt64 (st3 (39 + (Int32.toNatClampNeg r2)) (Int32.toNatClampNeg l3))) (Int32.toInt64 r22) l4 (fun r24 st23 => post r24 st23)))))) ∧ (r2 = (-1 : Int32) → wp_KT_partOf K F st1 (0 : Int64) (0 : Int64) l4 (fun r26 st25 => post r26 st25))))
set_option maxRecDepth 100000 in
set_option maxHeartbeats 4000000 in
theorem c_Ha_sharePart {st : jS} {l1 : Int32} {l2 : Int32} {l3 : Int32} {l4 : Int32} {post : Int64 → jS → Prop} (h : wp_Ha_sharePart K F st l1 l2 l3 l4 post) : jr_Ml l yHa_sharePart wHa_sharePart ({ frames := 3, cells := 0, slots := 0, locals := 70 }) [.ref (ad 3), .int l1, .int l2, .int l3, .int l4] D kC (kT cI cII cL cJ) (kW cI cII cL ad K F fr st) (kW cI cII cL ad K F fr) post := by
  refine jr_ofl (cc := bHa_sharePart) (nL := 17) (lv := [(0, .ref (ad 3)), (1, .int l1), (2, .int l2), (3, .int l3), (4, .int l4)]) (by decide) rfl (Nat.le_of_ble_eq_true rfl) rfl (fun p e s m args below meth c A C hr hlocks => ?_)
  unfold wp_Ha_sharePart at h
  refine jr_aload_n (q := 0) C dHa_sharePart_0 rfl rfl ?_
  refine jr_iload_n (q := 1) C dHa_sharePart_1 rfl rfl ?_
  refine jr_iload_n (q := 2) C dHa_sharePart_2 rfl rfl ?_
  refine jr_iconst (v := -1) C dHa_sharePart_3 (by decide) ?_
  refine jr_callVi (As := [.int l1, .int l2, .int (-1 : Int32)]) (rest := []) C (c_Ha_nearestFilled h) (cwV 3 C.2.2.2.2.1 (tg_V tm3_59 tm3_61 tp_13 tm1_5 tm3_62) rfl rfl rfl ⟨rfl, by decide, by decide, by decide⟩ ⟨Nat.le_of_ble_eq_true rfl, Nat.le_of_ble_eq_true rfl⟩) dHa_sharePart_4 (rfl : kC[3]? = _) kA_3 rfl rfl (Nat.le_of_ble_eq_true rfl) ⟨Nat.le_of_ble_eq_true rfl, Nat.le_of_ble_eq_true rfl⟩ (fun r2 st1 h => ?_)
  refine jr_istore (lv' := [(5, .int r2), (0, .ref (ad 3)), (1, .int l1), (2, .int l2), (3, .int l3), (4, .int l4)]) C dHa_sharePart_7 (by decide) rfl ?_
  refine jr_iload (q := 0) C dHa_sharePart_9 rfl ?_
  refine jr_iconst (v := -1) C dHa_sharePart_11 (by decide) ?_
  refine jr_icmp_ne (tgt := 23) C dHa_sharePart_12 (by decide) (fun z => ?_) (fun z => ?_)
  · have h := h.1 z
    refine jr_aload_n (q := 1) C dHa_sharePart_23 rfl rfl ?_
    refine jr_iload_n (q := 2) C dHa_sharePart_24 rfl rfl ?_
    refine jr_iload_n (q := 3) C dHa_sharePart_25 rfl rfl ?_
    refine jr_iload (q := 0) C dHa_sharePart_26 rfl ?_
    refine jr_callVi (As := [.int l1, .int l2, .int r2]) (rest := []) C (c_Ha_nearestFilled h) (cwV 3 C.2.2.2.2.1 (tg_V tm3_59 tm3_61 tp_13 tm1_5 tm3_62) rfl rfl rfl ⟨rfl, by decide, by decide, by decide⟩ ⟨Nat.le_of_ble_eq_true rfl, Nat.le_of_ble_eq_true rfl⟩) dHa_sharePart_28 (rfl : kC[3]? = _) kA_3 rfl rfl (Nat.le_of_ble_eq_true rfl) ⟨Nat.le_of_ble_eq_true rfl, Nat.le_of_ble_eq_true rfl⟩ (fun r4 st3 h => ?_)
    refine jr_istore (lv' := [(6, .int r4), (5, .int r2), (0, .ref (ad 3)), (1, .int l1), (2, .int l2), (3, .int l3), (4, .int l4)]) C dHa_sharePart_31 (by decide) rfl ?_
    refine jr_iload (q := 0) C dHa_sharePart_33 rfl ?_
    refine jr_iconst (v := -1) C dHa_sharePart_35 (by decide) ?_
    refine jr_icmp_ne (tgt := 62) C dHa_sharePart_36 (by decide) (fun z => ?_) (fun z => ?_)
    · have h := h.1 z
      refine jr_aload_n (q := 2) C dHa_sharePart_62 rfl rfl ?_
      refine jr_iload (q := 0) C dHa_sharePart_63 rfl ?_
      refine jr_iload_n (q := 3) C dHa_sharePart_65 rfl rfl ?_
      refine jr_iload_n (q := 4) C dHa_sharePart_66 rfl rfl ?_
      refine jr_callVi (As := [.int r4, .int l1, .int l2]) (rest := []) C (c_Ha_squareTo h) (cwV 3 C.2.2.2.2.1 (tg_V tm3_67 tm3_69 tp_15 tm1_5 tm3_70) rfl rfl rfl ⟨rfl, by decide, by decide, by decide⟩ ⟨Nat.le_of_ble_eq_true rfl, Nat.le_of_ble_eq_true rfl⟩) dHa_sharePart_67 (rfl : kC[3]? = _) kA_3 rfl rfl (Nat.le_of_ble_eq_true rfl) ⟨Nat.le_of_ble_eq_true rfl, Nat.le_of_ble_eq_true rfl⟩ (fun r6 st5 h => ?_)
      refine jr_iconst (v := 1) C dHa_sharePart_70 (by decide) ?_
      refine jr_iadd C dHa_sharePart_71 ?_
      refine jr_i2l C dHa_sharePart_72 ?_
      refine jr_lstore (lv' := [(7, .long (Int32.toInt64 (r6 + (1 : Int32)))), (6, .int r4), (5, .int r2), (0, .ref (ad 3)), (1, .int l1), (2, .int l2), (3, .int l3), (4, .int l4)]) C dHa_sharePart_73 (by decide) rfl ?_
      refine jr_aload_n (q := 3) C dHa_sharePart_75 rfl rfl ?_
      refine jr_iload (q := 2) C dHa_sharePart_76 rfl ?_
      refine jr_iload_n (q := 4) C dHa_sharePart_78 rfl rfl ?_
      refine jr_iload_n (q := 5) C dHa_sharePart_79 rfl rfl ?_
      refine jr_callVi (As := [.int r2, .int l1, .int l2]) (rest := []) C (c_Ha_squareTo h) (cwV 3 C.2.2.2.2.1 (tg_V tm3_67 tm3_69 tp_15 tm1_5 tm3_70) rfl rfl rfl ⟨rfl, by decide, by decide, by decide⟩ ⟨Nat.le_of_ble_eq_true rfl, Nat.le_of_ble_eq_true rfl⟩) dHa_sharePart_80 (rfl : kC[3]? = _) kA_3 rfl rfl (Nat.le_of_ble_eq_true rfl) ⟨Nat.le_of_ble_eq_true rfl, Nat.le_of_ble_eq_true rfl⟩ (fun r8 st7 h => ?_)
      refine jr_iconst (v := 1) C dHa_sharePart_83 (by decide) ?_
      refine jr_iadd C dHa_sharePart_84 ?_
      refine jr_i2l C dHa_sharePart_85 ?_
      refine jr_lstore (lv' := [(9, .long (Int32.toInt64 (r8 + (1 : Int32)))), (7, .long (Int32.toInt64 (r6 + (1 : Int32)))), (6, .int r4), (5, .int r2), (0, .ref (ad 3)), (1, .int l1), (2, .int l2), (3, .int l3), (4, .int l4)]) C dHa_sharePart_86 (by decide) rfl ?_
      refine jr_aload_n (q := 4) C dHa_sharePart_88 rfl rfl ?_
      refine jr_iload (q := 3) C dHa_sharePart_89 rfl ?_
      refine jr_callVi (As := [.int r2]) (rest := []) C (c_Ha_allGrams h) (cwV 1 C.2.2.2.2.1 (tg_V tm3_63 tm3_65 tp_14 tm1_5 tm3_66) rfl rfl rfl ⟨rfl, by decide, by decide, by decide⟩ ⟨Nat.le_of_ble_eq_true rfl, Nat.le_of_ble_eq_true rfl⟩) dHa_sharePart_91 (rfl : kC[3]? = _) kA_3 rfl rfl (Nat.le_of_ble_eq_true rfl) ⟨Nat.le_of_ble_eq_true rfl, Nat.le_of_ble_eq_true rfl⟩ (fun r10 st9 h => ?_)
      refine jr_i2l C dHa_sharePart_94 ?_
      refine jr_lstore (lv' := [(11, .long (Int32.toInt64 r10)), (9, .long (Int32.toInt64 (r8 + (1 : Int32)))), (7, .long (Int32.toInt64 (r6 + (1 : Int32)))), (6, .int r4), (5, .int r2), (0, .ref (ad 3)), (1, .int l1), (2, .int l2), (3, .int l3), (4, .int l4)]) C dHa_sharePart_95 (by decide) rfl ?_
      refine jr_aload_n (q := 5) C dHa_sharePart_97 rfl rfl ?_
      refine jr_iload (q := 3) C dHa_sharePart_98 rfl ?_
      refine jr_callVi (As := [.int r4]) (rest := []) C (c_Ha_allGrams h) (cwV 1 C.2.2.2.2.1 (tg_V tm3_63 tm3_65 tp_14 tm1_5 tm3_66) rfl rfl rfl ⟨rfl, by decide, by decide, by decide⟩ ⟨Nat.le_of_ble_eq_true rfl, Nat.le_of_ble_eq_true rfl⟩) dHa_sharePart_100 (rfl : kC[3]? = _) kA_3 rfl rfl (Nat.le_of_ble_eq_true rfl) ⟨Nat.le_of_ble_eq_true rfl, Nat.le_of_ble_eq_true rfl⟩ (fun r12 st11 h => ?_)
      refine jr_i2l C dHa_sharePart_103 ?_
      refine jr_lstore (lv' := [(13, .long (Int32.toInt64 r12)), (11, .long (Int32.toInt64 r10)), (9, .long (Int32.toInt64 (r8 + (1 : Int32)))), (7, .long (Int32.toInt64 (r6 + (1 : Int32)))), (6, .int r4), (5, .int r2), (0, .ref (ad 3)), (1, .int l1), (2, .int l2), (3, .int l3), (4, .int l4)]) C dHa_sharePart_104 (by decide) rfl ?_
      refine jr_aload_n (q := 6) C dHa_sharePart_106 rfl rfl ?_
      refine jr_getf (k := 3) C dHa_sharePart_107 inw_Ha (rfl : kC[3]? = _) (by decide) (List.mem_cons_of_mem _ tm1_99) rfl kA_3 rfl ?_
      refine jr_iload (q := 5) C dHa_sharePart_110 rfl ?_
      obtain ⟨h13, h⟩ := h
      refine jr_alda (t0 := 1) C dHa_sharePart_112 kA_14 rfl h13 (kE_cat h13) ?_
      refine jr_iload_n (q := 9) C dHa_sharePart_113 rfl rfl ?_
      obtain ⟨h14, h⟩ := h
      refine jr_iald (t0 := 0) C dHa_sharePart_114 (kA_rowcat h13) rfl h14 ?_
      refine jr_i2l C dHa_sharePart_115 ?_
      refine jr_lload (q := 0) C dHa_sharePart_116 rfl ?_
      refine jr_lmul C dHa_sharePart_118 ?_
      refine jr_lload (q := 3) C dHa_sharePart_119 rfl ?_
      refine jr_lmul C dHa_sharePart_121 ?_
      refine jr_aload_n (q := 6) C dHa_sharePart_122 rfl rfl ?_
      refine jr_getf (k := 3) C dHa_sharePart_123 inw_Ha (rfl : kC[3]? = _) (by decide) (List.mem_cons_of_mem _ tm1_99) rfl kA_3 rfl ?_
      refine jr_iload (q := 4) C dHa_sharePart_126 rfl ?_
      obtain ⟨h15, h⟩ := h
      refine jr_alda (t0 := 1) C dHa_sharePart_128 kA_14 rfl h15 (kE_cat h15) ?_
      refine jr_iload_n (q := 9) C dHa_sharePart_129 rfl rfl ?_
      obtain ⟨h16, h⟩ := h
      refine jr_iald (t0 := 0) C dHa_sharePart_130 (kA_rowcat h15) rfl h16 ?_
      refine jr_i2l C dHa_sharePart_131 ?_
      refine jr_lload (q := 1) C dHa_sharePart_132 rfl ?_
      refine jr_lmul C dHa_sharePart_134 ?_
      refine jr_lload (q := 2) C dHa_sharePart_135 rfl ?_
      refine jr_lmul C dHa_sharePart_137 ?_
      refine jr_ladd C dHa_sharePart_138 ?_
      refine jr_lstore (lv' := [(15, .long ((((Int32.toInt64 (st11 (39 + (Int32.toNatClampNeg r2)) (Int32.toNatClampNeg l3))) * (Int32.toInt64 r12)) * (Int32.toInt64 (r6 + (1 : Int32)))) + (((Int32.toInt64 (st11 (39 + (Int32.toNatClampNeg r4)) (Int32.toNatClampNeg l3))) * (Int32.toInt64 r10)) * (Int32.toInt64 (r8 + (1 : Int32)))))), (13, .long (Int32.toInt64 r12)), (11, .long (Int32.toInt64 r10)), (9, .long (Int32.toInt64 (r8 + (1 : Int32)))), (7, .long (Int32.toInt64 (r6 + (1 : Int32)))), (6, .int r4), (5, .int r2), (0, .ref (ad 3)), (1, .int l1), (2, .int l2), (3, .int l3), (4, .int l4)]) C dHa_sharePart_139 (by decide) rfl ?_
      refine jr_lload (q := 0) C dHa_sharePart_141 rfl ?_
      refine jr_lload (q := 2) C dHa_sharePart_143 rfl ?_
      refine jr_lload (q := 1) C dHa_sharePart_145 rfl ?_
      refine jr_lmul C dHa_sharePart_147 ?_
      refine jr_lload (q := 4) C dHa_sharePart_148 rfl ?_
      refine jr_lload (q := 3) C dHa_sharePart_150 rfl ?_
      refine jr_ladd C dHa_sharePart_152 ?_
      refine jr_lmul C dHa_sharePart_153 ?_
      refine jr_iload (q := 11) C dHa_sharePart_154 rfl ?_
      refine jr_callSNl (As := [.long ((((Int32.toInt64 (st11 (39 + (Int32.toNatClampNeg r2)) (Int32.toNatClampNeg l3))) * (Int32.toInt64 r12)) * (Int32.toInt64 (r6 + (1 : Int32)))) + (((Int32.toInt64 (st11 (39 + (Int32.toNatClampNeg r4)) (Int32.toNatClampNeg l3))) * (Int32.toInt64 r10)) * (Int32.toInt64 (r8 + (1 : Int32))))), .long (((Int32.toInt64 r10) * (Int32.toInt64 r12)) * ((Int32.toInt64 (r6 + (1 : Int32))) + (Int32.toInt64 (r8 + (1 : Int32))))), .int l4]) (rest := []) C (c_KT_partOf h) ⟨va_cnB 3 C.2.2.2.2.1 (tg_N tm2_172) rfl rfl rfl (C.2.2.2.2.2.2.2 _ (List.mem_of_getElem? (i := 11) rfl)) (C.2.2.2.2.1 _ (List.mem_cons_of_mem _ tm1_1)) ⟨by decide, by decide, by decide⟩ ⟨Nat.le_of_ble_eq_true rfl, Nat.le_of_ble_eq_true rfl⟩, C.2.2.2.2.1 _ (List.mem_cons_of_mem _ tm2_171), trivial⟩ dHa_sharePart_156 rfl rfl (Nat.le_of_ble_eq_true rfl) ⟨Nat.le_of_ble_eq_true rfl, Nat.le_of_ble_eq_true rfl⟩ (fun r18 st17 h => ?_)
      exact jr_retl C hr hlocks dHa_sharePart_159 h rfl
    · have h := h.2 z
      refine jr_aload_n (q := 2) C dHa_sharePart_39 rfl rfl ?_
      refine jr_getf (k := 3) C dHa_sharePart_40 inw_Ha (rfl : kC[3]? = _) (by decide) (List.mem_cons_of_mem _ tm1_99) rfl kA_3 rfl ?_
      refine jr_iload (q := 1) C dHa_sharePart_43 rfl ?_
      obtain ⟨h19, h⟩ := h
      refine jr_alda (t0 := 1) C dHa_sharePart_45 kA_14 rfl h19 (kE_cat h19) ?_
      refine jr_iload_n (q := 5) C dHa_sharePart_46 rfl rfl ?_
      obtain ⟨h20, h⟩ := h
      refine jr_iald (t0 := 0) C dHa_sharePart_47 (kA_rowcat h19) rfl h20 ?_
      refine jr_i2l C dHa_sharePart_48 ?_
      refine jr_aload_n (q := 2) C dHa_sharePart_49 rfl rfl ?_
      refine jr_iload (q := 1) C dHa_sharePart_50 rfl ?_
      refine jr_callVi (As := [.int r2]) (rest := [.long (Int32.toInt64 (st3 (39 + (Int32.toNatClampNeg r2)) (Int32.toNatClampNeg l3)))]) C (c_Ha_allGrams h) (cwV 1 C.2.2.2.2.1 (tg_V tm3_63 tm3_65 tp_14 tm1_5 tm3_66) rfl rfl rfl ⟨rfl, by decide, by decide, by decide⟩ ⟨Nat.le_of_ble_eq_true rfl, Nat.le_of_ble_eq_true rfl⟩) dHa_sharePart_52 (rfl : kC[3]? = _) kA_3 rfl rfl (Nat.le_of_ble_eq_true rfl) ⟨Nat.le_of_ble_eq_true rfl, Nat.le_of_ble_eq_true rfl⟩ (fun r22 st21 h => ?_)
      refine jr_i2l C dHa_sharePart_55 ?_
      refine jr_iload (q := 6) C dHa_sharePart_56 rfl ?_
      refine jr_callSNl (As := [.long (Int32.toInt64 (st3 (39 + (Int32.toNatClampNeg r2)) (Int32.toNatClampNeg l3))), .long (Int32.toInt64 r22), .int l4]) (rest := []) C (c_KT_partOf h) ⟨va_cnB 3 C.2.2.2.2.1 (tg_N tm2_172) rfl rfl rfl (C.2.2.2.2.2.2.2 _ (List.mem_of_getElem? (i := 11) rfl)) (C.2.2.2.2.1 _ (List.mem_cons_of_mem _ tm1_1)) ⟨by decide, by decide, by decide⟩ ⟨Nat.le_of_ble_eq_true rfl, Nat.le_of_ble_eq_true rfl⟩, C.2.2.2.2.1 _ (List.mem_cons_of_mem _ tm2_171), trivial⟩ dHa_sharePart_58 rfl rfl (Nat.le_of_ble_eq_true rfl) ⟨Nat.le_of_ble_eq_true rfl, Nat.le_of_ble_eq_true rfl⟩ (fun r24 st23 h => ?_)
      exact jr_retl C hr hlocks dHa_sharePart_61 h rfl
  · have h := h.2 z
    refine jr_lconst (v := 0) C dHa_sharePart_15 (by decide) ?_
    refine jr_lconst (v := 0) C dHa_sharePart_16 (by decide) ?_
    refine jr_iload (q := 5) C dHa_sharePart_17 rfl ?_
    refine jr_callSNl (As := [.long (0 : Int64), .long (0 : Int64), .int l4]) (rest := []) C (c_KT_partOf h) ⟨va_cnB 3 C.2.2.2.2.1 (tg_N tm2_172) rfl rfl rfl (C.2.2.2.2.2.2.2 _ (List.mem_of_getElem? (i := 11) rfl)) (C.2.2.2.2.1 _ (List.mem_cons_of_mem _ tm1_1)) ⟨by decide, by decide, by decide⟩ ⟨Nat.le_of_ble_eq_true rfl, Nat.le_of_ble_eq_true rfl⟩, C.2.2.2.2.1 _ (List.mem_cons_of_mem _ tm2_171), trivial⟩ dHa_sharePart_19 rfl rfl (Nat.le_of_ble_eq_true rfl) ⟨Nat.le_of_ble_eq_true rfl, Nat.le_of_ble_eq_true rfl⟩ (fun r26 st25 h => ?_)
    exact jr_retl C hr hlocks dHa_sharePart_22 h rfl
end KT
end
section
section KT
variable {l : Launch} {D : va_G} {cI cII cL cJ : ClassId} {ad sa : Nat → Nat} {K F : Nat} {fr : va_W}
def wp_KT_needKind (K F : Nat) (st : jS) (l1 : Int32) (post : jS → Prop) (xp : String → jS → Prop) : Prop :=
  ((l1 < 0 → xp "java/lang/IndexOutOfBoundsException" st) ∧ (¬ l1 < 0 → ((l1 < (st 0 0) → post st) ∧ (¬ l1 < (st 0 0) → xp "java/lang/IndexOutOfBoundsException" st))))
set_option maxRecDepth 100000 in
set_option maxHeartbeats 4000000 in
theorem c_KT_needKind (hl0 : l.stackTraces = false) {st : jS} {l1 : Int32} {post : jS → Prop} {xp : String → jS → Prop} (h : wp_KT_needKind K F st l1 post xp) : jr_Tv l yKT_needKind wKT_needKind ({ frames := 6, cells := 1, slots := 6, locals := 90 }) [.ref (ad 0), .int l1] D kC (kT cI cII cL cJ) (kW cI cII cL ad K F fr st) (kS sa) (kW cI cII cL ad K F fr) post xp 1 6 := by
  refine jr_ofXv (cc := bKT_needKind) (nL := 2) (lv := [(0, .ref (ad 0)), (1, .int l1)]) (by decide) rfl (Nat.le_of_ble_eq_true rfl) rfl (fun p e s m args below meth c A C hr hlocks hnt hZ hs9 => ?_)
  unfold wp_KT_needKind at h
  refine jr_iload_n (q := 1) C dKT_needKind_0 rfl rfl ?_
  refine jr_if_lt (tgt := 12) C dKT_needKind_1 (by decide) (fun z => ?_) (fun z => ?_)
  · have h := h.1 z
    exact jr_throwS C hl0 hZ hlocks hnt (ks_0 hs9) tf_186 tfn (C.2.2.2.2.1 _ (List.mem_cons_of_mem _ tm1_207)) (C.2.2.2.2.1 _ (List.mem_cons_of_mem _ tm1_11)) (th_186_190 C) (tx_186_190) dKT_needKind_12 dKT_needKind_15 dKT_needKind_16 dKT_needKind_18 dKT_needKind_21 (Nat.le_of_ble_eq_true rfl) (Nat.le_of_ble_eq_true rfl) (Nat.le_of_ble_eq_true rfl) (Nat.le_of_ble_eq_true rfl) (Nat.le_of_ble_eq_true rfl) (Nat.le_of_ble_eq_true rfl) h rfl
  · have h := h.2 z
    refine jr_iload_n (q := 1) C dKT_needKind_4 rfl rfl ?_
    refine jr_aload_n (q := 0) C dKT_needKind_5 rfl rfl ?_
    refine jr_getf (k := 0) C dKT_needKind_6 inw_KT (rfl : kC[0]? = _) (by decide) (List.mem_cons_of_mem _ tm1_132) rfl kA_0 rfl ?_
    refine jr_icmp_lt (tgt := 22) C dKT_needKind_9 (by decide) (fun z => ?_) (fun z => ?_)
    · have h := h.1 z
      exact jr_retXv C hr hlocks dKT_needKind_22 (Nat.le_of_ble_eq_true rfl) (Nat.le_of_ble_eq_true rfl) h rfl
    · have h := h.2 z
      exact jr_throwS C hl0 hZ hlocks hnt (ks_0 hs9) tf_186 tfn (C.2.2.2.2.1 _ (List.mem_cons_of_mem _ tm1_207)) (C.2.2.2.2.1 _ (List.mem_cons_of_mem _ tm1_11)) (th_186_190 C) (tx_186_190) dKT_needKind_12 dKT_needKind_15 dKT_needKind_16 dKT_needKind_18 dKT_needKind_21 (Nat.le_of_ble_eq_true rfl) (Nat.le_of_ble_eq_true rfl) (Nat.le_of_ble_eq_true rfl) (Nat.le_of_ble_eq_true rfl) (Nat.le_of_ble_eq_true rfl) (Nat.le_of_ble_eq_true rfl) h rfl
def wp_KT_needKindOrNone (K F : Nat) (st : jS) (l1 : Int32) (post : jS → Prop) (xp : String → jS → Prop) : Prop :=
  ((l1 = (-1 : Int32) → post st) ∧ (¬ l1 = (-1 : Int32) → wp_KT_needKind K F st l1 (fun st1 => post st1) xp))
set_option maxRecDepth 100000 in
set_option maxHeartbeats 4000000 in
theorem c_KT_needKindOrNone (hl0 : l.stackTraces = false) {st : jS} {l1 : Int32} {post : jS → Prop} {xp : String → jS → Prop} (h : wp_KT_needKindOrNone K F st l1 post xp) : jr_Tv l yKT_needKindOrNone wKT_needKindOrNone ({ frames := 7, cells := 1, slots := 6, locals := 111 }) [.ref (ad 0), .int l1] D kC (kT cI cII cL cJ) (kW cI cII cL ad K F fr st) (kS sa) (kW cI cII cL ad K F fr) post xp 1 6 := by
  refine jr_ofXv (cc := bKT_needKindOrNone) (nL := 2) (lv := [(0, .ref (ad 0)), (1, .int l1)]) (by decide) rfl (Nat.le_of_ble_eq_true rfl) rfl (fun p e s m args below meth c A C hr hlocks hnt hZ hs9 => ?_)
  unfold wp_KT_needKindOrNone at h
  refine jr_iload_n (q := 1) C dKT_needKindOrNone_0 rfl rfl ?_
  refine jr_iconst (v := -1) C dKT_needKindOrNone_1 (by decide) ?_
  refine jr_icmp_eq (tgt := 10) C dKT_needKindOrNone_2 (by decide) (fun z => ?_) (fun z => ?_)
  · have h := h.1 z
    exact jr_retXv C hr hlocks dKT_needKindOrNone_10 (Nat.le_of_ble_eq_true rfl) (Nat.le_of_ble_eq_true rfl) h rfl
  · have h := h.2 z
    refine jr_aload_n (q := 0) C dKT_needKindOrNone_5 rfl rfl ?_
    refine jr_iload_n (q := 1) C dKT_needKindOrNone_6 rfl rfl ?_
    refine jr_callXVvv (As := [.int l1]) (rest := []) C hlocks hnt hZ hs9 (c_KT_needKind hl0 h) (cwV 1 C.2.2.2.2.1 (tg_V tm1_203 tm1_205 tp_3 tm1_1 tm1_206) rfl rfl rfl ⟨rfl, by decide, by decide, by decide⟩ ⟨Nat.le_of_ble_eq_true rfl, Nat.le_of_ble_eq_true rfl⟩) dKT_needKindOrNone_7 (rfl : kC[0]? = _) kA_0 rfl rfl (Nat.le_of_ble_eq_true rfl) ⟨Nat.le_of_ble_eq_true rfl, Nat.le_of_ble_eq_true rfl⟩ (Nat.le_of_ble_eq_true rfl) (Nat.le_of_ble_eq_true rfl) (fun _ _ h => h) (fun st1 h => ?_)
    exact jr_retXv C hr hlocks dKT_needKindOrNone_10 (Nat.le_of_ble_eq_true rfl) (Nat.le_of_ble_eq_true rfl) h rfl
def wp_KT_example (K F : Nat) (st : jS) (l1 : Int32) (post : Int32 → jS → Prop) (xp : String → jS → Prop) : Prop :=
  wp_KT_needKindOrNone K F st l1 (fun st1 => (((st1 1 5) < (24 : Int32) → wp_Ex_add K F st1 l1 (fun r4 st3 => post r4 st3)) ∧ (¬ (st1 1 5) < (24 : Int32) → xp "java/lang/IllegalStateException" st1))) xp
set_option maxRecDepth 100000 in
set_option maxHeartbeats 4000000 in
theorem c_KT_example (hl0 : l.stackTraces = false) {st : jS} {l1 : Int32} {post : Int32 → jS → Prop} {xp : String → jS → Prop} (h : wp_KT_example K F st l1 post xp) : jr_Ti l yKT_example wKT_example ({ frames := 8, cells := 2, slots := 12, locals := 132 }) [.ref (ad 0), .int l1] D kC (kT cI cII cL cJ) (kW cI cII cL ad K F fr st) (kS sa) (kW cI cII cL ad K F fr) post xp 2 12 := by
  refine jr_ofXi (cc := bKT_example) (nL := 2) (lv := [(0, .ref (ad 0)), (1, .int l1)]) (by decide) rfl (Nat.le_of_ble_eq_true rfl) rfl (fun p e s m args below meth c A C hr hlocks hnt hZ hs9 => ?_)
  unfold wp_KT_example at h
  refine jr_aload_n (q := 0) C dKT_example_0 rfl rfl ?_
  refine jr_iload_n (q := 1) C dKT_example_1 rfl rfl ?_
  refine jr_callXVvi (As := [.int l1]) (rest := []) C hlocks hnt hZ hs9 (c_KT_needKindOrNone hl0 h) (cwV 1 C.2.2.2.2.1 (tg_V tm1_199 tm1_201 tp_2 tm1_1 tm1_202) rfl rfl rfl ⟨rfl, by decide, by decide, by decide⟩ ⟨Nat.le_of_ble_eq_true rfl, Nat.le_of_ble_eq_true rfl⟩) dKT_example_2 (rfl : kC[0]? = _) kA_0 rfl rfl (Nat.le_of_ble_eq_true rfl) ⟨Nat.le_of_ble_eq_true rfl, Nat.le_of_ble_eq_true rfl⟩ (Nat.le_of_ble_eq_true rfl) (Nat.le_of_ble_eq_true rfl) (fun _ _ h => h) (fun st1 h => ?_)
  refine jr_aload_n (q := 0) C dKT_example_5 rfl rfl ?_
  refine jr_getf (k := 2) C dKT_example_6 inw_KT (rfl : kC[0]? = _) (by decide) (List.mem_cons_of_mem _ tm1_134) rfl kA_0 rfl ?_
  refine jr_getf (k := 5) C dKT_example_9 inw_Ex (rfl : kC[1]? = _) (by decide) (List.mem_cons_of_mem _ tm1_47) rfl kA_1 rfl ?_
  refine jr_bipush (v := 24) C dKT_example_12 (by decide) ?_
  refine jr_icmp_lt (tgt := 27) C dKT_example_14 (by decide) (fun z => ?_) (fun z => ?_)
  · have h := h.1 z
    refine jr_aload_n (q := 0) C dKT_example_27 rfl rfl ?_
    refine jr_getf (k := 2) C dKT_example_28 inw_KT (rfl : kC[0]? = _) (by decide) (List.mem_cons_of_mem _ tm1_134) rfl kA_0 rfl ?_
    refine jr_iload_n (q := 1) C dKT_example_31 rfl rfl ?_
    refine jr_callVi (As := [.int l1]) (rest := []) C (c_Ex_add h) (cwV 1 C.2.2.2.2.1 (tg_V tm2_51 tm2_52 tm2_53 tm1_3 tm2_54) rfl rfl rfl ⟨rfl, by decide, by decide, by decide⟩ ⟨Nat.le_of_ble_eq_true rfl, Nat.le_of_ble_eq_true rfl⟩) dKT_example_32 (rfl : kC[1]? = _) kA_1 rfl rfl (Nat.le_of_ble_eq_true rfl) ⟨Nat.le_of_ble_eq_true rfl, Nat.le_of_ble_eq_true rfl⟩ (fun r4 st3 h => ?_)
    exact jr_retXi C hr hlocks dKT_example_35 (Nat.le_of_ble_eq_true rfl) (Nat.le_of_ble_eq_true rfl) h rfl
  · have h := h.2 z
    exact jr_throwS C hl0 hZ hlocks hnt (ks_1 hs9) tf_63 tfn (C.2.2.2.2.1 _ (List.mem_cons_of_mem _ tm2_35)) (C.2.2.2.2.1 _ (List.mem_cons_of_mem _ tm1_12)) (th_63_67 C) (tx_63_67) dKT_example_17 dKT_example_20 dKT_example_21 dKT_example_23 dKT_example_26 (Nat.le_of_ble_eq_true rfl) (Nat.le_of_ble_eq_true rfl) (Nat.le_of_ble_eq_true rfl) (Nat.le_of_ble_eq_true rfl) (Nat.le_of_ble_eq_true rfl) (Nat.le_of_ble_eq_true rfl) h rfl
def wp_KT_needExample (K F : Nat) (st : jS) (l1 : Int32) (post : jS → Prop) (xp : String → jS → Prop) : Prop :=
  ((l1 < 0 → xp "java/lang/IndexOutOfBoundsException" st) ∧ (¬ l1 < 0 → ((l1 < (st 1 5) → post st) ∧ (¬ l1 < (st 1 5) → xp "java/lang/IndexOutOfBoundsException" st))))
set_option maxRecDepth 100000 in
set_option maxHeartbeats 4000000 in
theorem c_KT_needExample (hl0 : l.stackTraces = false) {st : jS} {l1 : Int32} {post : jS → Prop} {xp : String → jS → Prop} (h : wp_KT_needExample K F st l1 post xp) : jr_Tv l yKT_needExample wKT_needExample ({ frames := 6, cells := 1, slots := 6, locals := 90 }) [.ref (ad 0), .int l1] D kC (kT cI cII cL cJ) (kW cI cII cL ad K F fr st) (kS sa) (kW cI cII cL ad K F fr) post xp 1 6 := by
  refine jr_ofXv (cc := bKT_needExample) (nL := 2) (lv := [(0, .ref (ad 0)), (1, .int l1)]) (by decide) rfl (Nat.le_of_ble_eq_true rfl) rfl (fun p e s m args below meth c A C hr hlocks hnt hZ hs9 => ?_)
  unfold wp_KT_needExample at h
  refine jr_iload_n (q := 1) C dKT_needExample_0 rfl rfl ?_
  refine jr_if_lt (tgt := 15) C dKT_needExample_1 (by decide) (fun z => ?_) (fun z => ?_)
  · have h := h.1 z
    exact jr_throwS C hl0 hZ hlocks hnt (ks_2 hs9) tf_186 tfn (C.2.2.2.2.1 _ (List.mem_cons_of_mem _ tm1_207)) (C.2.2.2.2.1 _ (List.mem_cons_of_mem _ tm1_11)) (th_186_190 C) (tx_186_190) dKT_needExample_15 dKT_needExample_18 dKT_needExample_19 dKT_needExample_21 dKT_needExample_24 (Nat.le_of_ble_eq_true rfl) (Nat.le_of_ble_eq_true rfl) (Nat.le_of_ble_eq_true rfl) (Nat.le_of_ble_eq_true rfl) (Nat.le_of_ble_eq_true rfl) (Nat.le_of_ble_eq_true rfl) h rfl
  · have h := h.2 z
    refine jr_iload_n (q := 1) C dKT_needExample_4 rfl rfl ?_
    refine jr_aload_n (q := 0) C dKT_needExample_5 rfl rfl ?_
    refine jr_getf (k := 2) C dKT_needExample_6 inw_KT (rfl : kC[0]? = _) (by decide) (List.mem_cons_of_mem _ tm1_134) rfl kA_0 rfl ?_
    refine jr_getf (k := 5) C dKT_needExample_9 inw_Ex (rfl : kC[1]? = _) (by decide) (List.mem_cons_of_mem _ tm1_47) rfl kA_1 rfl ?_
    refine jr_icmp_lt (tgt := 25) C dKT_needExample_12 (by decide) (fun z => ?_) (fun z => ?_)
    · have h := h.1 z
      exact jr_retXv C hr hlocks dKT_needExample_25 (Nat.le_of_ble_eq_true rfl) (Nat.le_of_ble_eq_true rfl) h rfl
    · have h := h.2 z
      exact jr_throwS C hl0 hZ hlocks hnt (ks_2 hs9) tf_186 tfn (C.2.2.2.2.1 _ (List.mem_cons_of_mem _ tm1_207)) (C.2.2.2.2.1 _ (List.mem_cons_of_mem _ tm1_11)) (th_186_190 C) (tx_186_190) dKT_needExample_15 dKT_needExample_18 dKT_needExample_19 dKT_needExample_21 dKT_needExample_24 (Nat.le_of_ble_eq_true rfl) (Nat.le_of_ble_eq_true rfl) (Nat.le_of_ble_eq_true rfl) (Nat.le_of_ble_eq_true rfl) (Nat.le_of_ble_eq_true rfl) (Nat.le_of_ble_eq_true rfl) h rfl
def wp_KT_needFeature (K F : Nat) (st : jS) (l1 : Int32) (post : jS → Prop) (xp : String → jS → Prop) : Prop :=
  ((l1 < 0 → xp "java/lang/IndexOutOfBoundsException" st) ∧ (¬ l1 < 0 → ((l1 < (st 0 1) → post st) ∧ (¬ l1 < (st 0 1) → xp "java/lang/IndexOutOfBoundsException" st))))
set_option maxRecDepth 100000 in
set_option maxHeartbeats 4000000 in
theorem c_KT_needFeature (hl0 : l.stackTraces = false) {st : jS} {l1 : Int32} {post : jS → Prop} {xp : String → jS → Prop} (h : wp_KT_needFeature K F st l1 post xp) : jr_Tv l yKT_needFeature wKT_needFeature ({ frames := 6, cells := 1, slots := 6, locals := 90 }) [.ref (ad 0), .int l1] D kC (kT cI cII cL cJ) (kW cI cII cL ad K F fr st) (kS sa) (kW cI cII cL ad K F fr) post xp 1 6 := by
  refine jr_ofXv (cc := bKT_needFeature) (nL := 2) (lv := [(0, .ref (ad 0)), (1, .int l1)]) (by decide) rfl (Nat.le_of_ble_eq_true rfl) rfl (fun p e s m args below meth c A C hr hlocks hnt hZ hs9 => ?_)
  unfold wp_KT_needFeature at h
  refine jr_iload_n (q := 1) C dKT_needFeature_0 rfl rfl ?_
  refine jr_if_lt (tgt := 12) C dKT_needFeature_1 (by decide) (fun z => ?_) (fun z => ?_)
  · have h := h.1 z
    exact jr_throwS C hl0 hZ hlocks hnt (ks_3 hs9) tf_186 tfn (C.2.2.2.2.1 _ (List.mem_cons_of_mem _ tm1_207)) (C.2.2.2.2.1 _ (List.mem_cons_of_mem _ tm1_11)) (th_186_190 C) (tx_186_190) dKT_needFeature_12 dKT_needFeature_15 dKT_needFeature_16 dKT_needFeature_18 dKT_needFeature_21 (Nat.le_of_ble_eq_true rfl) (Nat.le_of_ble_eq_true rfl) (Nat.le_of_ble_eq_true rfl) (Nat.le_of_ble_eq_true rfl) (Nat.le_of_ble_eq_true rfl) (Nat.le_of_ble_eq_true rfl) h rfl
  · have h := h.2 z
    refine jr_iload_n (q := 1) C dKT_needFeature_4 rfl rfl ?_
    refine jr_aload_n (q := 0) C dKT_needFeature_5 rfl rfl ?_
    refine jr_getf (k := 1) C dKT_needFeature_6 inw_KT (rfl : kC[0]? = _) (by decide) (List.mem_cons_of_mem _ tm1_133) rfl kA_0 rfl ?_
    refine jr_icmp_lt (tgt := 22) C dKT_needFeature_9 (by decide) (fun z => ?_) (fun z => ?_)
    · have h := h.1 z
      exact jr_retXv C hr hlocks dKT_needFeature_22 (Nat.le_of_ble_eq_true rfl) (Nat.le_of_ble_eq_true rfl) h rfl
    · have h := h.2 z
      exact jr_throwS C hl0 hZ hlocks hnt (ks_3 hs9) tf_186 tfn (C.2.2.2.2.1 _ (List.mem_cons_of_mem _ tm1_207)) (C.2.2.2.2.1 _ (List.mem_cons_of_mem _ tm1_11)) (th_186_190 C) (tx_186_190) dKT_needFeature_12 dKT_needFeature_15 dKT_needFeature_16 dKT_needFeature_18 dKT_needFeature_21 (Nat.le_of_ble_eq_true rfl) (Nat.le_of_ble_eq_true rfl) (Nat.le_of_ble_eq_true rfl) (Nat.le_of_ble_eq_true rfl) (Nat.le_of_ble_eq_true rfl) (Nat.le_of_ble_eq_true rfl) h rfl
def wp_KT_needWithin (K F : Nat) (st : jS) (l0 : Int32) (l1 : Int32) (l2 : Int32) (post : jS → Prop) (xp : String → jS → Prop) : Prop :=
  ((l0 < l1 → xp "java/lang/IllegalArgumentException" st) ∧ (¬ l0 < l1 → ((l0 ≤ l2 → post st) ∧ (¬ l0 ≤ l2 → xp "java/lang/IllegalArgumentException" st))))
set_option maxRecDepth 100000 in
set_option maxHeartbeats 4000000 in
theorem c_KT_needWithin (hl0 : l.stackTraces = false) {st : jS} {l0 : Int32} {l1 : Int32} {l2 : Int32} {post : jS → Prop} {xp : String → jS → Prop} (h : wp_KT_needWithin K F st l0 l1 l2 post xp) : jr_Tv l yKT_needWithin wKT_needWithin ({ frames := 6, cells := 1, slots := 6, locals := 90 }) [.int l0, .int l1, .int l2] D kC (kT cI cII cL cJ) (kW cI cII cL ad K F fr st) (kS sa) (kW cI cII cL ad K F fr) post xp 1 6 := by
  refine jr_ofXv (cc := bKT_needWithin) (nL := 3) (lv := [(0, .int l0), (1, .int l1), (2, .int l2)]) (by decide) rfl (Nat.le_of_ble_eq_true rfl) rfl (fun p e s m args below meth c A C hr hlocks hnt hZ hs9 => ?_)
  unfold wp_KT_needWithin at h
  refine jr_iload_n (q := 0) C dKT_needWithin_0 rfl rfl ?_
  refine jr_iload_n (q := 1) C dKT_needWithin_1 rfl rfl ?_
  refine jr_icmp_lt (tgt := 10) C dKT_needWithin_2 (by decide) (fun z => ?_) (fun z => ?_)
  · have h := h.1 z
    exact jr_throwS C hl0 hZ hlocks hnt (ks_4 hs9) tf_139 tfn (C.2.2.2.2.1 _ (List.mem_cons_of_mem _ tm2_76)) (C.2.2.2.2.1 _ (List.mem_cons_of_mem _ tm1_13)) (th_139_143 C) (tx_139_143) dKT_needWithin_10 dKT_needWithin_13 dKT_needWithin_14 dKT_needWithin_16 dKT_needWithin_19 (Nat.le_of_ble_eq_true rfl) (Nat.le_of_ble_eq_true rfl) (Nat.le_of_ble_eq_true rfl) (Nat.le_of_ble_eq_true rfl) (Nat.le_of_ble_eq_true rfl) (Nat.le_of_ble_eq_true rfl) h rfl
  · have h := h.2 z
    refine jr_iload_n (q := 0) C dKT_needWithin_5 rfl rfl ?_
    refine jr_iload_n (q := 2) C dKT_needWithin_6 rfl rfl ?_
    refine jr_icmp_le (tgt := 20) C dKT_needWithin_7 (by decide) (fun z => ?_) (fun z => ?_)
    · have h := h.1 z
      exact jr_retXv C hr hlocks dKT_needWithin_20 (Nat.le_of_ble_eq_true rfl) (Nat.le_of_ble_eq_true rfl) h rfl
    · have h := h.2 z
      exact jr_throwS C hl0 hZ hlocks hnt (ks_4 hs9) tf_139 tfn (C.2.2.2.2.1 _ (List.mem_cons_of_mem _ tm2_76)) (C.2.2.2.2.1 _ (List.mem_cons_of_mem _ tm1_13)) (th_139_143 C) (tx_139_143) dKT_needWithin_10 dKT_needWithin_13 dKT_needWithin_14 dKT_needWithin_16 dKT_needWithin_19 (Nat.le_of_ble_eq_true rfl) (Nat.le_of_ble_eq_true rfl) (Nat.le_of_ble_eq_true rfl) (Nat.le_of_ble_eq_true rfl) (Nat.le_of_ble_eq_true rfl) (Nat.le_of_ble_eq_true rfl) h rfl
def wp_KT_value (K F : Nat) (st : jS) (l1 : Int32) (l2 : Int32) (l3 : Int32) (post : Int32 → jS → Prop) (xp : String → jS → Prop) : Prop :=
  wp_KT_needExample K F st l1 (fun st1 => wp_KT_needFeature K F st1 l2 (fun st3 => wp_KT_needWithin K F st3 l3 (0 : Int32) (2000 : Int32) (fun st5 => vp_in l1 24 ∧ vp_in l2 F ∧ vp_in l1 24 ∧ vp_in l2 F ∧ (((st5 (15 + (Int32.toNatClampNeg l1)) (Int32.toNatClampNeg l2)) = l3 → post (0 : Int32) (jq st5 (15 + (Int32.toNatClampNeg l1)) (Int32.toNatClampNeg l2) l3)) ∧ (¬ (st5 (15 + (Int32.toNatClampNeg l1)) (Int32.toNatClampNeg l2)) = l3 → post (1 : Int32) (jq st5 (15 + (Int32.toNatClampNeg l1)) (Int32.toNatClampNeg l2) l3)))) xp) xp) xp
set_option maxRecDepth 100000 in
set_option maxHeartbeats 4000000 in
theorem c_KT_value (hl0 : l.stackTraces = false) {st : jS} {l1 : Int32} {l2 : Int32} {l3 : Int32} {post : Int32 → jS → Prop} {xp : String → jS → Prop} (h : wp_KT_value K F st l1 l2 l3 post xp) : jr_Ti l yKT_value wKT_value ({ frames := 7, cells := 3, slots := 18, locals := 112 }) [.ref (ad 0), .int l1, .int l2, .int l3] D kC (kT cI cII cL cJ) (kW cI cII cL ad K F fr st) (kS sa) (kW cI cII cL ad K F fr) post xp 3 18 := by
  refine jr_ofXz (cc := bKT_value) (nL := 5) (lv := [(0, .ref (ad 0)), (1, .int l1), (2, .int l2), (3, .int l3)]) (by decide) rfl (Nat.le_of_ble_eq_true rfl) rfl (fun p e s m args below meth c A C hr hlocks hnt hZ hs9 => ?_)
  unfold wp_KT_value at h
  refine jr_aload_n (q := 0) C dKT_value_0 rfl rfl ?_
  refine jr_iload_n (q := 1) C dKT_value_1 rfl rfl ?_
  refine jr_callXVvi (As := [.int l1]) (rest := []) C hlocks hnt hZ hs9 (c_KT_needExample hl0 h) (cwV 1 C.2.2.2.2.1 (tg_V tm2_63 tm2_65 tp_5 tm1_1 tm2_66) rfl rfl rfl ⟨rfl, by decide, by decide, by decide⟩ ⟨Nat.le_of_ble_eq_true rfl, Nat.le_of_ble_eq_true rfl⟩) dKT_value_2 (rfl : kC[0]? = _) kA_0 rfl rfl (Nat.le_of_ble_eq_true rfl) ⟨Nat.le_of_ble_eq_true rfl, Nat.le_of_ble_eq_true rfl⟩ (Nat.le_of_ble_eq_true rfl) (Nat.le_of_ble_eq_true rfl) (fun _ _ h => h) (fun st1 h => ?_)
  refine jr_aload_n (q := 0) C dKT_value_5 rfl rfl ?_
  refine jr_iload_n (q := 2) C dKT_value_6 rfl rfl ?_
  refine jr_callXVvi (As := [.int l2]) (rest := []) C hlocks hnt hZ hs9 (c_KT_needFeature hl0 h) (cwV 1 C.2.2.2.2.1 (tg_V tm2_68 tm2_70 tp_6 tm1_1 tm2_71) rfl rfl rfl ⟨rfl, by decide, by decide, by decide⟩ ⟨Nat.le_of_ble_eq_true rfl, Nat.le_of_ble_eq_true rfl⟩) dKT_value_7 (rfl : kC[0]? = _) kA_0 rfl rfl (Nat.le_of_ble_eq_true rfl) ⟨Nat.le_of_ble_eq_true rfl, Nat.le_of_ble_eq_true rfl⟩ (Nat.le_of_ble_eq_true rfl) (Nat.le_of_ble_eq_true rfl) (fun _ _ h => h) (fun st3 h => ?_)
  refine jr_iload_n (q := 3) C dKT_value_10 rfl rfl ?_
  refine jr_iconst (v := 0) C dKT_value_11 (by decide) ?_
  refine jr_sipush (v := 2000) C dKT_value_12 (by decide) ?_
  refine jr_callXSvi (As := [.int l3, .int (0 : Int32), .int (2000 : Int32)]) (rest := []) C hlocks hnt hZ hs9 (c_KT_needWithin hl0 h) (va_cwS 3 C.2.2.2.2.1 (tg_S tm2_73 tm2_74 tm1_1 tm2_75) rfl rfl rfl ⟨by decide, by decide, by decide⟩ ⟨Nat.le_of_ble_eq_true rfl, Nat.le_of_ble_eq_true rfl⟩) dKT_value_15 rfl rfl (Nat.le_of_ble_eq_true rfl) ⟨Nat.le_of_ble_eq_true rfl, Nat.le_of_ble_eq_true rfl⟩ (Nat.le_of_ble_eq_true rfl) (Nat.le_of_ble_eq_true rfl) (fun _ _ h => h) (fun st5 h => ?_)
  refine jr_aload_n (q := 0) C dKT_value_18 rfl rfl ?_
  refine jr_getf (k := 2) C dKT_value_19 inw_KT (rfl : kC[0]? = _) (by decide) (List.mem_cons_of_mem _ tm1_134) rfl kA_0 rfl ?_
  refine jr_getf (k := 1) C dKT_value_22 inw_Ex (rfl : kC[1]? = _) (by decide) (List.mem_cons_of_mem _ tm1_39) rfl kA_1 rfl ?_
  refine jr_iload_n (q := 1) C dKT_value_25 rfl rfl ?_
  obtain ⟨h7, h⟩ := h
  refine jr_alda (t0 := 1) C dKT_value_26 kA_5 rfl h7 (kE_num h7) ?_
  refine jr_iload_n (q := 2) C dKT_value_27 rfl rfl ?_
  obtain ⟨h8, h⟩ := h
  refine jr_iald (t0 := 0) C dKT_value_28 (kA_rownum h7) rfl h8 ?_
  refine jr_istore (lv' := [(4, .int (st5 (15 + (Int32.toNatClampNeg l1)) (Int32.toNatClampNeg l2))), (0, .ref (ad 0)), (1, .int l1), (2, .int l2), (3, .int l3)]) C dKT_value_29 (by decide) rfl ?_
  refine jr_aload_n (q := 1) C dKT_value_31 rfl rfl ?_
  refine jr_getf (k := 2) C dKT_value_32 inw_KT (rfl : kC[0]? = _) (by decide) (List.mem_cons_of_mem _ tm1_134) rfl kA_0 rfl ?_
  refine jr_getf (k := 1) C dKT_value_35 inw_Ex (rfl : kC[1]? = _) (by decide) (List.mem_cons_of_mem _ tm1_39) rfl kA_1 rfl ?_
  refine jr_iload_n (q := 2) C dKT_value_38 rfl rfl ?_
  obtain ⟨h9, h⟩ := h
  refine jr_alda (t0 := 1) C dKT_value_39 kA_5 rfl h9 (kE_num h9) ?_
  refine jr_iload_n (q := 3) C dKT_value_40 rfl rfl ?_
  refine jr_iload_n (q := 4) C dKT_value_41 rfl rfl ?_
  obtain ⟨h10, h⟩ := h
  refine jr_iast (t0 := 0) C dKT_value_42 (kA_rownum h9) rfl h10 ?_
  refine jr_ws (ws' := kW cI cII cL ad K F fr (jq st5 (15 + (Int32.toNatClampNeg l1)) (Int32.toNatClampNeg l2) l3)) (kP_rownum h9) ?_
  refine jr_iload (q := 0) C dKT_value_43 rfl ?_
  refine jr_iload_n (q := 4) C dKT_value_45 rfl rfl ?_
  refine jr_icmp_eq (tgt := 53) C dKT_value_46 (by decide) (fun z => ?_) (fun z => ?_)
  · have h := h.1 z
    refine jr_iconst (v := 0) C dKT_value_53 (by decide) ?_
    exact jr_retXz C hr rfl hlocks dKT_value_54 (Nat.le_of_ble_eq_true rfl) (Nat.le_of_ble_eq_true rfl) h rfl
  · have h := h.2 z
    refine jr_iconst (v := 1) C dKT_value_49 (by decide) ?_
    refine jr_goto (tgt := 54) C dKT_value_50 (by decide) ?_
    exact jr_retXz C hr rfl hlocks dKT_value_54 (Nat.le_of_ble_eq_true rfl) (Nat.le_of_ble_eq_true rfl) h rfl
def wp_KT_teach (K F : Nat) (st : jS) (l1 : Int32) (l2 : Int32) (post : Int32 → jS → Prop) (xp : String → jS → Prop) : Prop :=
  wp_KT_needExample K F st l1 (fun st1 => wp_KT_needKindOrNone K F st1 l2 (fun st3 => vp_in l1 24 ∧ vp_in l1 24 ∧ post (st3 6 (Int32.toNatClampNeg l1)) (jq st3 6 (Int32.toNatClampNeg l1) l2)) xp) xp
set_option maxRecDepth 100000 in
set_option maxHeartbeats 4000000 in
theorem c_KT_teach (hl0 : l.stackTraces = false) {st : jS} {l1 : Int32} {l2 : Int32} {post : Int32 → jS → Prop} {xp : String → jS → Prop} (h : wp_KT_teach K F st l1 l2 post xp) : jr_Ti l yKT_teach wKT_teach ({ frames := 8, cells := 2, slots := 12, locals := 132 }) [.ref (ad 0), .int l1, .int l2] D kC (kT cI cII cL cJ) (kW cI cII cL ad K F fr st) (kS sa) (kW cI cII cL ad K F fr) post xp 2 12 := by
  refine jr_ofXi (cc := bKT_teach) (nL := 4) (lv := [(0, .ref (ad 0)), (1, .int l1), (2, .int l2)]) (by decide) rfl (Nat.le_of_ble_eq_true rfl) rfl (fun p e s m args below meth c A C hr hlocks hnt hZ hs9 => ?_)
  unfold wp_KT_teach at h
  refine jr_aload_n (q := 0) C dKT_teach_0 rfl rfl ?_
  refine jr_iload_n (q := 1) C dKT_teach_1 rfl rfl ?_
  refine jr_callXVvi (As := [.int l1]) (rest := []) C hlocks hnt hZ hs9 (c_KT_needExample hl0 h) (cwV 1 C.2.2.2.2.1 (tg_V tm2_63 tm2_65 tp_5 tm1_1 tm2_66) rfl rfl rfl ⟨rfl, by decide, by decide, by decide⟩ ⟨Nat.le_of_ble_eq_true rfl, Nat.le_of_ble_eq_true rfl⟩) dKT_teach_2 (rfl : kC[0]? = _) kA_0 rfl rfl (Nat.le_of_ble_eq_true rfl) ⟨Nat.le_of_ble_eq_true rfl, Nat.le_of_ble_eq_true rfl⟩ (Nat.le_of_ble_eq_true rfl) (Nat.le_of_ble_eq_true rfl) (fun _ _ h => h) (fun st1 h => ?_)
  refine jr_aload_n (q := 0) C dKT_teach_5 rfl rfl ?_
  refine jr_iload_n (q := 2) C dKT_teach_6 rfl rfl ?_
  refine jr_callXVvi (As := [.int l2]) (rest := []) C hlocks hnt hZ hs9 (c_KT_needKindOrNone hl0 h) (cwV 1 C.2.2.2.2.1 (tg_V tm1_199 tm1_201 tp_2 tm1_1 tm1_202) rfl rfl rfl ⟨rfl, by decide, by decide, by decide⟩ ⟨Nat.le_of_ble_eq_true rfl, Nat.le_of_ble_eq_true rfl⟩) dKT_teach_7 (rfl : kC[0]? = _) kA_0 rfl rfl (Nat.le_of_ble_eq_true rfl) ⟨Nat.le_of_ble_eq_true rfl, Nat.le_of_ble_eq_true rfl⟩ (Nat.le_of_ble_eq_true rfl) (Nat.le_of_ble_eq_true rfl) (fun _ _ h => h) (fun st3 h => ?_)
  refine jr_aload_n (q := 0) C dKT_teach_10 rfl rfl ?_
  refine jr_getf (k := 2) C dKT_teach_11 inw_KT (rfl : kC[0]? = _) (by decide) (List.mem_cons_of_mem _ tm1_134) rfl kA_0 rfl ?_
  refine jr_getf (k := 2) C dKT_teach_14 inw_Ex (rfl : kC[1]? = _) (by decide) (List.mem_cons_of_mem _ tm1_41) rfl kA_1 rfl ?_
  refine jr_iload_n (q := 1) C dKT_teach_17 rfl rfl ?_
  obtain ⟨h5, h⟩ := h
  refine jr_iald (t0 := 0) C dKT_teach_18 kA_6 rfl h5 ?_
  refine jr_istore_n (lv' := [(3, .int (st3 6 (Int32.toNatClampNeg l1))), (0, .ref (ad 0)), (1, .int l1), (2, .int l2)]) C dKT_teach_19 rfl (by decide) rfl ?_
  refine jr_aload_n (q := 1) C dKT_teach_20 rfl rfl ?_
  refine jr_getf (k := 2) C dKT_teach_21 inw_KT (rfl : kC[0]? = _) (by decide) (List.mem_cons_of_mem _ tm1_134) rfl kA_0 rfl ?_
  refine jr_getf (k := 2) C dKT_teach_24 inw_Ex (rfl : kC[1]? = _) (by decide) (List.mem_cons_of_mem _ tm1_41) rfl kA_1 rfl ?_
  refine jr_iload_n (q := 2) C dKT_teach_27 rfl rfl ?_
  refine jr_iload_n (q := 3) C dKT_teach_28 rfl rfl ?_
  obtain ⟨h6, h⟩ := h
  refine jr_iast (t0 := 0) C dKT_teach_29 kA_6 rfl h6 ?_
  refine jr_ws (ws' := kW cI cII cL ad K F fr (jq st3 6 (Int32.toNatClampNeg l1) l2)) (kP_6) ?_
  refine jr_iload_n (q := 0) C dKT_teach_30 rfl rfl ?_
  exact jr_retXi C hr hlocks dKT_teach_31 (Nat.le_of_ble_eq_true rfl) (Nat.le_of_ble_eq_true rfl) h rfl
def wp_KT_width (K F : Nat) (st : jS) (l1 : Int32) (l2 : Int32) (post : Int32 → jS → Prop) (xp : String → jS → Prop) : Prop :=
  wp_KT_needFeature K F st l1 (fun st1 => wp_KT_needWithin K F st1 l2 (1 : Int32) (1000 : Int32) (fun st3 => vp_in l1 F ∧ vp_in l1 F ∧ post (st3 7 (Int32.toNatClampNeg l1)) (jq st3 7 (Int32.toNatClampNeg l1) l2)) xp) xp
set_option maxRecDepth 100000 in
set_option maxHeartbeats 4000000 in
theorem c_KT_width (hl0 : l.stackTraces = false) {st : jS} {l1 : Int32} {l2 : Int32} {post : Int32 → jS → Prop} {xp : String → jS → Prop} (h : wp_KT_width K F st l1 l2 post xp) : jr_Ti l yKT_width wKT_width ({ frames := 7, cells := 2, slots := 12, locals := 112 }) [.ref (ad 0), .int l1, .int l2] D kC (kT cI cII cL cJ) (kW cI cII cL ad K F fr st) (kS sa) (kW cI cII cL ad K F fr) post xp 2 12 := by
  refine jr_ofXi (cc := bKT_width) (nL := 4) (lv := [(0, .ref (ad 0)), (1, .int l1), (2, .int l2)]) (by decide) rfl (Nat.le_of_ble_eq_true rfl) rfl (fun p e s m args below meth c A C hr hlocks hnt hZ hs9 => ?_)
  unfold wp_KT_width at h
  refine jr_aload_n (q := 0) C dKT_width_0 rfl rfl ?_
  refine jr_iload_n (q := 1) C dKT_width_1 rfl rfl ?_
  refine jr_callXVvi (As := [.int l1]) (rest := []) C hlocks hnt hZ hs9 (c_KT_needFeature hl0 h) (cwV 1 C.2.2.2.2.1 (tg_V tm2_68 tm2_70 tp_6 tm1_1 tm2_71) rfl rfl rfl ⟨rfl, by decide, by decide, by decide⟩ ⟨Nat.le_of_ble_eq_true rfl, Nat.le_of_ble_eq_true rfl⟩) dKT_width_2 (rfl : kC[0]? = _) kA_0 rfl rfl (Nat.le_of_ble_eq_true rfl) ⟨Nat.le_of_ble_eq_true rfl, Nat.le_of_ble_eq_true rfl⟩ (Nat.le_of_ble_eq_true rfl) (Nat.le_of_ble_eq_true rfl) (fun _ _ h => h) (fun st1 h => ?_)
  refine jr_iload_n (q := 2) C dKT_width_5 rfl rfl ?_
  refine jr_iconst (v := 1) C dKT_width_6 (by decide) ?_
  refine jr_sipush (v := 1000) C dKT_width_7 (by decide) ?_
  refine jr_callXSvi (As := [.int l2, .int (1 : Int32), .int (1000 : Int32)]) (rest := []) C hlocks hnt hZ hs9 (c_KT_needWithin hl0 h) (va_cwS 3 C.2.2.2.2.1 (tg_S tm2_73 tm2_74 tm1_1 tm2_75) rfl rfl rfl ⟨by decide, by decide, by decide⟩ ⟨Nat.le_of_ble_eq_true rfl, Nat.le_of_ble_eq_true rfl⟩) dKT_width_10 rfl rfl (Nat.le_of_ble_eq_true rfl) ⟨Nat.le_of_ble_eq_true rfl, Nat.le_of_ble_eq_true rfl⟩ (Nat.le_of_ble_eq_true rfl) (Nat.le_of_ble_eq_true rfl) (fun _ _ h => h) (fun st3 h => ?_)
  refine jr_aload_n (q := 0) C dKT_width_13 rfl rfl ?_
  refine jr_getf (k := 2) C dKT_width_14 inw_KT (rfl : kC[0]? = _) (by decide) (List.mem_cons_of_mem _ tm1_134) rfl kA_0 rfl ?_
  refine jr_getf (k := 3) C dKT_width_17 inw_Ex (rfl : kC[1]? = _) (by decide) (List.mem_cons_of_mem _ tm1_44) rfl kA_1 rfl ?_
  refine jr_iload_n (q := 1) C dKT_width_20 rfl rfl ?_
  obtain ⟨h5, h⟩ := h
  refine jr_iald (t0 := 0) C dKT_width_21 kA_7 rfl h5 ?_
  refine jr_istore_n (lv' := [(3, .int (st3 7 (Int32.toNatClampNeg l1))), (0, .ref (ad 0)), (1, .int l1), (2, .int l2)]) C dKT_width_22 rfl (by decide) rfl ?_
  refine jr_aload_n (q := 1) C dKT_width_23 rfl rfl ?_
  refine jr_getf (k := 2) C dKT_width_24 inw_KT (rfl : kC[0]? = _) (by decide) (List.mem_cons_of_mem _ tm1_134) rfl kA_0 rfl ?_
  refine jr_getf (k := 3) C dKT_width_27 inw_Ex (rfl : kC[1]? = _) (by decide) (List.mem_cons_of_mem _ tm1_44) rfl kA_1 rfl ?_
  refine jr_iload_n (q := 2) C dKT_width_30 rfl rfl ?_
  refine jr_iload_n (q := 3) C dKT_width_31 rfl rfl ?_
  obtain ⟨h6, h⟩ := h
  refine jr_iast (t0 := 0) C dKT_width_32 kA_7 rfl h6 ?_
  refine jr_ws (ws' := kW cI cII cL ad K F fr (jq st3 7 (Int32.toNatClampNeg l1) l2)) (kP_7) ?_
  refine jr_iload_n (q := 0) C dKT_width_33 rfl rfl ?_
  exact jr_retXi C hr hlocks dKT_width_34 (Nat.le_of_ble_eq_true rfl) (Nat.le_of_ble_eq_true rfl) h rfl
def wp_KT_cell (K F : Nat) (st : jS) (l1 : Int32) (l2 : Int32) (post : Int32 → jS → Prop) (xp : String → jS → Prop) : Prop :=
  wp_KT_needExample K F st l1 (fun st1 => wp_KT_needFeature K F st1 l2 (fun st3 => wp_Ex_cellOf K F st3 l1 l2 (fun r6 st5 => post r6 st5)) xp) xp
set_option maxRecDepth 100000 in
set_option maxHeartbeats 4000000 in
theorem c_KT_cell (hl0 : l.stackTraces = false) {st : jS} {l1 : Int32} {l2 : Int32} {post : Int32 → jS → Prop} {xp : String → jS → Prop} (h : wp_KT_cell K F st l1 l2 post xp) : jr_Ti l yKT_cell wKT_cell ({ frames := 7, cells := 2, slots := 12, locals := 111 }) [.ref (ad 0), .int l1, .int l2] D kC (kT cI cII cL cJ) (kW cI cII cL ad K F fr st) (kS sa) (kW cI cII cL ad K F fr) post xp 2 12 := by
  refine jr_ofXi (cc := bKT_cell) (nL := 3) (lv := [(0, .ref (ad 0)), (1, .int l1), (2, .int l2)]) (by decide) rfl (Nat.le_of_ble_eq_true rfl) rfl (fun p e s m args below meth c A C hr hlocks hnt hZ hs9 => ?_)
  unfold wp_KT_cell at h
  refine jr_aload_n (q := 0) C dKT_cell_0 rfl rfl ?_
  refine jr_iload_n (q := 1) C dKT_cell_1 rfl rfl ?_
  refine jr_callXVvi (As := [.int l1]) (rest := []) C hlocks hnt hZ hs9 (c_KT_needExample hl0 h) (cwV 1 C.2.2.2.2.1 (tg_V tm2_63 tm2_65 tp_5 tm1_1 tm2_66) rfl rfl rfl ⟨rfl, by decide, by decide, by decide⟩ ⟨Nat.le_of_ble_eq_true rfl, Nat.le_of_ble_eq_true rfl⟩) dKT_cell_2 (rfl : kC[0]? = _) kA_0 rfl rfl (Nat.le_of_ble_eq_true rfl) ⟨Nat.le_of_ble_eq_true rfl, Nat.le_of_ble_eq_true rfl⟩ (Nat.le_of_ble_eq_true rfl) (Nat.le_of_ble_eq_true rfl) (fun _ _ h => h) (fun st1 h => ?_)
  refine jr_aload_n (q := 0) C dKT_cell_5 rfl rfl ?_
  refine jr_iload_n (q := 2) C dKT_cell_6 rfl rfl ?_
  refine jr_callXVvi (As := [.int l2]) (rest := []) C hlocks hnt hZ hs9 (c_KT_needFeature hl0 h) (cwV 1 C.2.2.2.2.1 (tg_V tm2_68 tm2_70 tp_6 tm1_1 tm2_71) rfl rfl rfl ⟨rfl, by decide, by decide, by decide⟩ ⟨Nat.le_of_ble_eq_true rfl, Nat.le_of_ble_eq_true rfl⟩) dKT_cell_7 (rfl : kC[0]? = _) kA_0 rfl rfl (Nat.le_of_ble_eq_true rfl) ⟨Nat.le_of_ble_eq_true rfl, Nat.le_of_ble_eq_true rfl⟩ (Nat.le_of_ble_eq_true rfl) (Nat.le_of_ble_eq_true rfl) (fun _ _ h => h) (fun st3 h => ?_)
  refine jr_aload_n (q := 0) C dKT_cell_10 rfl rfl ?_
  refine jr_getf (k := 2) C dKT_cell_11 inw_KT (rfl : kC[0]? = _) (by decide) (List.mem_cons_of_mem _ tm1_134) rfl kA_0 rfl ?_
  refine jr_iload_n (q := 1) C dKT_cell_14 rfl rfl ?_
  refine jr_iload_n (q := 2) C dKT_cell_15 rfl rfl ?_
  refine jr_callVi (As := [.int l1, .int l2]) (rest := []) C (c_Ex_cellOf h) (cwV 2 C.2.2.2.2.1 (tg_V tm2_113 tm1_176 tm1_177 tm1_3 tm1_178) rfl rfl rfl ⟨rfl, by decide, by decide, by decide⟩ ⟨Nat.le_of_ble_eq_true rfl, Nat.le_of_ble_eq_true rfl⟩) dKT_cell_16 (rfl : kC[1]? = _) kA_1 rfl rfl (Nat.le_of_ble_eq_true rfl) ⟨Nat.le_of_ble_eq_true rfl, Nat.le_of_ble_eq_true rfl⟩ (fun r6 st5 h => ?_)
  exact jr_retXi C hr hlocks dKT_cell_19 (Nat.le_of_ble_eq_true rfl) (Nat.le_of_ble_eq_true rfl) h rfl
def wp_KT_votes (K F : Nat) (st : jS) (l1 : Int32) (l2 : Int32) (post : Int32 → jS → Prop) (xp : String → jS → Prop) : Prop :=
  wp_KT_needExample K F st l1 (fun st1 => wp_KT_needKind K F st1 l2 (fun st3 => wp_Te_votesFor K F st3 l1 l2 (fun r6 st5 => post r6 st5)) xp) xp
set_option maxRecDepth 100000 in
set_option maxHeartbeats 4000000 in
theorem c_KT_votes (hl0 : l.stackTraces = false) {st : jS} {l1 : Int32} {l2 : Int32} {post : Int32 → jS → Prop} {xp : String → jS → Prop} (h : wp_KT_votes K F st l1 l2 post xp) : jr_Ti l yKT_votes wKT_votes ({ frames := 7, cells := 2, slots := 12, locals := 111 }) [.ref (ad 0), .int l1, .int l2] D kC (kT cI cII cL cJ) (kW cI cII cL ad K F fr st) (kS sa) (kW cI cII cL ad K F fr) post xp 2 12 := by
  refine jr_ofXi (cc := bKT_votes) (nL := 3) (lv := [(0, .ref (ad 0)), (1, .int l1), (2, .int l2)]) (by decide) rfl (Nat.le_of_ble_eq_true rfl) rfl (fun p e s m args below meth c A C hr hlocks hnt hZ hs9 => ?_)
  unfold wp_KT_votes at h
  refine jr_aload_n (q := 0) C dKT_votes_0 rfl rfl ?_
  refine jr_iload_n (q := 1) C dKT_votes_1 rfl rfl ?_
  refine jr_callXVvi (As := [.int l1]) (rest := []) C hlocks hnt hZ hs9 (c_KT_needExample hl0 h) (cwV 1 C.2.2.2.2.1 (tg_V tm2_63 tm2_65 tp_5 tm1_1 tm2_66) rfl rfl rfl ⟨rfl, by decide, by decide, by decide⟩ ⟨Nat.le_of_ble_eq_true rfl, Nat.le_of_ble_eq_true rfl⟩) dKT_votes_2 (rfl : kC[0]? = _) kA_0 rfl rfl (Nat.le_of_ble_eq_true rfl) ⟨Nat.le_of_ble_eq_true rfl, Nat.le_of_ble_eq_true rfl⟩ (Nat.le_of_ble_eq_true rfl) (Nat.le_of_ble_eq_true rfl) (fun _ _ h => h) (fun st1 h => ?_)
  refine jr_aload_n (q := 0) C dKT_votes_5 rfl rfl ?_
  refine jr_iload_n (q := 2) C dKT_votes_6 rfl rfl ?_
  refine jr_callXVvi (As := [.int l2]) (rest := []) C hlocks hnt hZ hs9 (c_KT_needKind hl0 h) (cwV 1 C.2.2.2.2.1 (tg_V tm1_203 tm1_205 tp_3 tm1_1 tm1_206) rfl rfl rfl ⟨rfl, by decide, by decide, by decide⟩ ⟨Nat.le_of_ble_eq_true rfl, Nat.le_of_ble_eq_true rfl⟩) dKT_votes_7 (rfl : kC[0]? = _) kA_0 rfl rfl (Nat.le_of_ble_eq_true rfl) ⟨Nat.le_of_ble_eq_true rfl, Nat.le_of_ble_eq_true rfl⟩ (Nat.le_of_ble_eq_true rfl) (Nat.le_of_ble_eq_true rfl) (fun _ _ h => h) (fun st3 h => ?_)
  refine jr_aload_n (q := 0) C dKT_votes_10 rfl rfl ?_
  refine jr_getf (k := 3) C dKT_votes_11 inw_KT (rfl : kC[0]? = _) (by decide) (List.mem_cons_of_mem _ tm1_135) rfl kA_0 rfl ?_
  refine jr_iload_n (q := 1) C dKT_votes_14 rfl rfl ?_
  refine jr_iload_n (q := 2) C dKT_votes_15 rfl rfl ?_
  refine jr_callVi (As := [.int l1, .int l2]) (rest := []) C (c_Te_votesFor h) (cwV 2 C.2.2.2.2.1 (tg_V tm2_121 tm2_122 tm2_123 tm1_4 tm2_124) rfl rfl rfl ⟨rfl, by decide, by decide, by decide⟩ ⟨Nat.le_of_ble_eq_true rfl, Nat.le_of_ble_eq_true rfl⟩) dKT_votes_16 (rfl : kC[2]? = _) kA_2 rfl rfl (Nat.le_of_ble_eq_true rfl) ⟨Nat.le_of_ble_eq_true rfl, Nat.le_of_ble_eq_true rfl⟩ (fun r6 st5 h => ?_)
  exact jr_retXi C hr hlocks dKT_votes_19 (Nat.le_of_ble_eq_true rfl) (Nat.le_of_ble_eq_true rfl) h rfl
def wp_KT_tell (K F : Nat) (st : jS) (l1 : Int32) (post : Int32 → jS → Prop) (xp : String → jS → Prop) : Prop :=
  wp_KT_needExample K F st l1 (fun st1 => wp_Te_told K F st1 l1 (fun r4 st3 => post r4 st3)) xp
set_option maxRecDepth 100000 in
set_option maxHeartbeats 4000000 in
theorem c_KT_tell (hl0 : l.stackTraces = false) {st : jS} {l1 : Int32} {post : Int32 → jS → Prop} {xp : String → jS → Prop} (h : wp_KT_tell K F st l1 post xp) : jr_Ti l yKT_tell wKT_tell ({ frames := 7, cells := 1, slots := 6, locals := 119 }) [.ref (ad 0), .int l1] D kC (kT cI cII cL cJ) (kW cI cII cL ad K F fr st) (kS sa) (kW cI cII cL ad K F fr) post xp 1 6 := by
  refine jr_ofXi (cc := bKT_tell) (nL := 2) (lv := [(0, .ref (ad 0)), (1, .int l1)]) (by decide) rfl (Nat.le_of_ble_eq_true rfl) rfl (fun p e s m args below meth c A C hr hlocks hnt hZ hs9 => ?_)
  unfold wp_KT_tell at h
  refine jr_aload_n (q := 0) C dKT_tell_0 rfl rfl ?_
  refine jr_iload_n (q := 1) C dKT_tell_1 rfl rfl ?_
  refine jr_callXVvi (As := [.int l1]) (rest := []) C hlocks hnt hZ hs9 (c_KT_needExample hl0 h) (cwV 1 C.2.2.2.2.1 (tg_V tm2_63 tm2_65 tp_5 tm1_1 tm2_66) rfl rfl rfl ⟨rfl, by decide, by decide, by decide⟩ ⟨Nat.le_of_ble_eq_true rfl, Nat.le_of_ble_eq_true rfl⟩) dKT_tell_2 (rfl : kC[0]? = _) kA_0 rfl rfl (Nat.le_of_ble_eq_true rfl) ⟨Nat.le_of_ble_eq_true rfl, Nat.le_of_ble_eq_true rfl⟩ (Nat.le_of_ble_eq_true rfl) (Nat.le_of_ble_eq_true rfl) (fun _ _ h => h) (fun st1 h => ?_)
  refine jr_aload_n (q := 0) C dKT_tell_5 rfl rfl ?_
  refine jr_getf (k := 3) C dKT_tell_6 inw_KT (rfl : kC[0]? = _) (by decide) (List.mem_cons_of_mem _ tm1_135) rfl kA_0 rfl ?_
  refine jr_iload_n (q := 1) C dKT_tell_9 rfl rfl ?_
  refine jr_callVi (As := [.int l1]) (rest := []) C (c_Te_told h) (cwV 1 C.2.2.2.2.1 (tg_V tm2_132 tm1_160 tm1_161 tm1_4 tm1_162) rfl rfl rfl ⟨rfl, by decide, by decide, by decide⟩ ⟨Nat.le_of_ble_eq_true rfl, Nat.le_of_ble_eq_true rfl⟩) dKT_tell_10 (rfl : kC[2]? = _) kA_2 rfl rfl (Nat.le_of_ble_eq_true rfl) ⟨Nat.le_of_ble_eq_true rfl, Nat.le_of_ble_eq_true rfl⟩ (fun r4 st3 h => ?_)
  exact jr_retXi C hr hlocks dKT_tell_13 (Nat.le_of_ble_eq_true rfl) (Nat.le_of_ble_eq_true rfl) h rfl
def wp_KT_bound (K F : Nat) (st : jS) (l1 : Int32) (post : Int32 → jS → Prop) (xp : String → jS → Prop) : Prop :=
  wp_KT_needWithin K F st l1 (0 : Int32) (1000 : Int32) (fun st1 => post (st1 2 5) (jq st1 2 5 l1)) xp
set_option maxRecDepth 100000 in
set_option maxHeartbeats 4000000 in
theorem c_KT_bound (hl0 : l.stackTraces = false) {st : jS} {l1 : Int32} {post : Int32 → jS → Prop} {xp : String → jS → Prop} (h : wp_KT_bound K F st l1 post xp) : jr_Ti l yKT_bound wKT_bound ({ frames := 7, cells := 1, slots := 6, locals := 112 }) [.ref (ad 0), .int l1] D kC (kT cI cII cL cJ) (kW cI cII cL ad K F fr st) (kS sa) (kW cI cII cL ad K F fr) post xp 1 6 := by
  refine jr_ofXi (cc := bKT_bound) (nL := 3) (lv := [(0, .ref (ad 0)), (1, .int l1)]) (by decide) rfl (Nat.le_of_ble_eq_true rfl) rfl (fun p e s m args below meth c A C hr hlocks hnt hZ hs9 => ?_)
  unfold wp_KT_bound at h
  refine jr_iload_n (q := 1) C dKT_bound_0 rfl rfl ?_
  refine jr_iconst (v := 0) C dKT_bound_1 (by decide) ?_
  refine jr_sipush (v := 1000) C dKT_bound_2 (by decide) ?_
  refine jr_callXSvi (As := [.int l1, .int (0 : Int32), .int (1000 : Int32)]) (rest := []) C hlocks hnt hZ hs9 (c_KT_needWithin hl0 h) (va_cwS 3 C.2.2.2.2.1 (tg_S tm2_73 tm2_74 tm1_1 tm2_75) rfl rfl rfl ⟨by decide, by decide, by decide⟩ ⟨Nat.le_of_ble_eq_true rfl, Nat.le_of_ble_eq_true rfl⟩) dKT_bound_5 rfl rfl (Nat.le_of_ble_eq_true rfl) ⟨Nat.le_of_ble_eq_true rfl, Nat.le_of_ble_eq_true rfl⟩ (Nat.le_of_ble_eq_true rfl) (Nat.le_of_ble_eq_true rfl) (fun _ _ h => h) (fun st1 h => ?_)
  refine jr_aload_n (q := 0) C dKT_bound_8 rfl rfl ?_
  refine jr_getf (k := 3) C dKT_bound_9 inw_KT (rfl : kC[0]? = _) (by decide) (List.mem_cons_of_mem _ tm1_135) rfl kA_0 rfl ?_
  refine jr_getf (k := 5) C dKT_bound_12 inw_Te (rfl : kC[2]? = _) (by decide) (List.mem_cons_of_mem _ tm1_75) rfl kA_2 rfl ?_
  refine jr_istore_n (lv' := [(2, .int (st1 2 5)), (0, .ref (ad 0)), (1, .int l1)]) C dKT_bound_15 rfl (by decide) rfl ?_
  refine jr_aload_n (q := 1) C dKT_bound_16 rfl rfl ?_
  refine jr_getf (k := 3) C dKT_bound_17 inw_KT (rfl : kC[0]? = _) (by decide) (List.mem_cons_of_mem _ tm1_135) rfl kA_0 rfl ?_
  refine jr_iload_n (q := 2) C dKT_bound_20 rfl rfl ?_
  refine jr_putf (k := 5) C dKT_bound_21 inw_Te ty_Te ty_Te_ok nm_Te (rfl : kC[2]? = _) (by decide) (List.mem_cons_of_mem _ tm1_75) rfl rfl (ty := .int) rfl rfl rfl kA_2 (Nat.le_of_ble_eq_true rfl) ?_
  refine jr_ws (ws' := kW cI cII cL ad K F fr (jq st1 2 5 l1)) (kP_2) ?_
  refine jr_iload_n (q := 0) C dKT_bound_24 rfl rfl ?_
  exact jr_retXi C hr hlocks dKT_bound_25 (Nat.le_of_ble_eq_true rfl) (Nat.le_of_ble_eq_true rfl) h rfl
def wp_KT_prefer (K F : Nat) (st : jS) (l1 : Int32) (post : Int32 → jS → Prop) (xp : String → jS → Prop) : Prop :=
  wp_KT_needKind K F st l1 (fun st1 => wp_Te_bringToFront K F st1 l1 (fun r4 st3 => post r4 st3)) xp
set_option maxRecDepth 100000 in
set_option maxHeartbeats 4000000 in
theorem c_KT_prefer (hl0 : l.stackTraces = false) {st : jS} {l1 : Int32} {post : Int32 → jS → Prop} {xp : String → jS → Prop} (h : wp_KT_prefer K F st l1 post xp) : jr_Ti l yKT_prefer wKT_prefer ({ frames := 7, cells := 1, slots := 6, locals := 111 }) [.ref (ad 0), .int l1] D kC (kT cI cII cL cJ) (kW cI cII cL ad K F fr st) (kS sa) (kW cI cII cL ad K F fr) post xp 1 6 := by
  refine jr_ofXi (cc := bKT_prefer) (nL := 2) (lv := [(0, .ref (ad 0)), (1, .int l1)]) (by decide) rfl (Nat.le_of_ble_eq_true rfl) rfl (fun p e s m args below meth c A C hr hlocks hnt hZ hs9 => ?_)
  unfold wp_KT_prefer at h
  refine jr_aload_n (q := 0) C dKT_prefer_0 rfl rfl ?_
  refine jr_iload_n (q := 1) C dKT_prefer_1 rfl rfl ?_
  refine jr_callXVvi (As := [.int l1]) (rest := []) C hlocks hnt hZ hs9 (c_KT_needKind hl0 h) (cwV 1 C.2.2.2.2.1 (tg_V tm1_203 tm1_205 tp_3 tm1_1 tm1_206) rfl rfl rfl ⟨rfl, by decide, by decide, by decide⟩ ⟨Nat.le_of_ble_eq_true rfl, Nat.le_of_ble_eq_true rfl⟩) dKT_prefer_2 (rfl : kC[0]? = _) kA_0 rfl rfl (Nat.le_of_ble_eq_true rfl) ⟨Nat.le_of_ble_eq_true rfl, Nat.le_of_ble_eq_true rfl⟩ (Nat.le_of_ble_eq_true rfl) (Nat.le_of_ble_eq_true rfl) (fun _ _ h => h) (fun st1 h => ?_)
  refine jr_aload_n (q := 0) C dKT_prefer_5 rfl rfl ?_
  refine jr_getf (k := 3) C dKT_prefer_6 inw_KT (rfl : kC[0]? = _) (by decide) (List.mem_cons_of_mem _ tm1_135) rfl kA_0 rfl ?_
  refine jr_iload_n (q := 1) C dKT_prefer_9 rfl rfl ?_
  refine jr_callVi (As := [.int l1]) (rest := []) C (c_Te_bringToFront h) (cwV 1 C.2.2.2.2.1 (tg_V tm2_147 tm2_148 tm2_149 tm1_4 tm2_150) rfl rfl rfl ⟨rfl, by decide, by decide, by decide⟩ ⟨Nat.le_of_ble_eq_true rfl, Nat.le_of_ble_eq_true rfl⟩) dKT_prefer_10 (rfl : kC[2]? = _) kA_2 rfl rfl (Nat.le_of_ble_eq_true rfl) ⟨Nat.le_of_ble_eq_true rfl, Nat.le_of_ble_eq_true rfl⟩ (fun r4 st3 h => ?_)
  exact jr_retXi C hr hlocks dKT_prefer_13 (Nat.le_of_ble_eq_true rfl) (Nat.le_of_ble_eq_true rfl) h rfl
def wp_KT_needPart (K F : Nat) (st : jS) (l0 : Int32) (post : jS → Prop) (xp : String → jS → Prop) : Prop :=
  ((l0 = 0 → post st) ∧ (¬ l0 = 0 → ((l0 = (1 : Int32) → post st) ∧ (¬ l0 = (1 : Int32) → xp "java/lang/IndexOutOfBoundsException" st))))
set_option maxRecDepth 100000 in
set_option maxHeartbeats 4000000 in
theorem c_KT_needPart (hl0 : l.stackTraces = false) {st : jS} {l0 : Int32} {post : jS → Prop} {xp : String → jS → Prop} (h : wp_KT_needPart K F st l0 post xp) : jr_Tv l yKT_needPart wKT_needPart ({ frames := 6, cells := 1, slots := 6, locals := 90 }) [.int l0] D kC (kT cI cII cL cJ) (kW cI cII cL ad K F fr st) (kS sa) (kW cI cII cL ad K F fr) post xp 1 6 := by
  refine jr_ofXv (cc := bKT_needPart) (nL := 1) (lv := [(0, .int l0)]) (by decide) rfl (Nat.le_of_ble_eq_true rfl) rfl (fun p e s m args below meth c A C hr hlocks hnt hZ hs9 => ?_)
  unfold wp_KT_needPart at h
  refine jr_iload_n (q := 0) C dKT_needPart_0 rfl rfl ?_
  refine jr_if_eq (tgt := 19) C dKT_needPart_1 (by decide) (fun z => ?_) (fun z => ?_)
  · have h := h.1 z
    exact jr_retXv C hr hlocks dKT_needPart_19 (Nat.le_of_ble_eq_true rfl) (Nat.le_of_ble_eq_true rfl) h rfl
  · have h := h.2 z
    refine jr_iload_n (q := 0) C dKT_needPart_4 rfl rfl ?_
    refine jr_iconst (v := 1) C dKT_needPart_5 (by decide) ?_
    refine jr_icmp_eq (tgt := 19) C dKT_needPart_6 (by decide) (fun z => ?_) (fun z => ?_)
    · have h := h.1 z
      exact jr_retXv C hr hlocks dKT_needPart_19 (Nat.le_of_ble_eq_true rfl) (Nat.le_of_ble_eq_true rfl) h rfl
    · have h := h.2 z
      exact jr_throwS C hl0 hZ hlocks hnt (ks_5 hs9) tf_186 tfn (C.2.2.2.2.1 _ (List.mem_cons_of_mem _ tm1_207)) (C.2.2.2.2.1 _ (List.mem_cons_of_mem _ tm1_11)) (th_186_190 C) (tx_186_190) dKT_needPart_9 dKT_needPart_12 dKT_needPart_13 dKT_needPart_15 dKT_needPart_18 (Nat.le_of_ble_eq_true rfl) (Nat.le_of_ble_eq_true rfl) (Nat.le_of_ble_eq_true rfl) (Nat.le_of_ble_eq_true rfl) (Nat.le_of_ble_eq_true rfl) (Nat.le_of_ble_eq_true rfl) h rfl
def wp_KT_wrong (K F : Nat) (st : jS) (l1 : Int32) (l2 : Int32) (l3 : Int32) (post : Int32 → jS → Prop) (xp : String → jS → Prop) : Prop :=
  wp_KT_needKind K F st l1 (fun st1 => wp_KT_needKindOrNone K F st1 l2 (fun st3 => wp_KT_needPart K F st3 l3 (fun st5 => wp_Te_countTold K F st5 l1 l2 (fun r8 st7 => wp_Ex_countTaught K F st7 l1 (fun r10 st9 => wp_KT_partOf K F st9 (Int32.toInt64 r8) (Int32.toInt64 r10) l3 (fun r12 st11 => post (Int64.toInt32 r12) st11)))) xp) xp) xp
set_option maxRecDepth 100000 in
set_option maxHeartbeats 4000000 in
theorem c_KT_wrong (hl0 : l.stackTraces = false) {st : jS} {l1 : Int32} {l2 : Int32} {l3 : Int32} {post : Int32 → jS → Prop} {xp : String → jS → Prop} (h : wp_KT_wrong K F st l1 l2 l3 post xp) : jr_Ti l yKT_wrong wKT_wrong ({ frames := 8, cells := 3, slots := 18, locals := 143 }) [.ref (ad 0), .int l1, .int l2, .int l3] D kC (kT cI cII cL cJ) (kW cI cII cL ad K F fr st) (kS sa) (kW cI cII cL ad K F fr) post xp 3 18 := by
  refine jr_ofXi (cc := bKT_wrong) (nL := 4) (lv := [(0, .ref (ad 0)), (1, .int l1), (2, .int l2), (3, .int l3)]) (by decide) rfl (Nat.le_of_ble_eq_true rfl) rfl (fun p e s m args below meth c A C hr hlocks hnt hZ hs9 => ?_)
  unfold wp_KT_wrong at h
  refine jr_aload_n (q := 0) C dKT_wrong_0 rfl rfl ?_
  refine jr_iload_n (q := 1) C dKT_wrong_1 rfl rfl ?_
  refine jr_callXVvi (As := [.int l1]) (rest := []) C hlocks hnt hZ hs9 (c_KT_needKind hl0 h) (cwV 1 C.2.2.2.2.1 (tg_V tm1_203 tm1_205 tp_3 tm1_1 tm1_206) rfl rfl rfl ⟨rfl, by decide, by decide, by decide⟩ ⟨Nat.le_of_ble_eq_true rfl, Nat.le_of_ble_eq_true rfl⟩) dKT_wrong_2 (rfl : kC[0]? = _) kA_0 rfl rfl (Nat.le_of_ble_eq_true rfl) ⟨Nat.le_of_ble_eq_true rfl, Nat.le_of_ble_eq_true rfl⟩ (Nat.le_of_ble_eq_true rfl) (Nat.le_of_ble_eq_true rfl) (fun _ _ h => h) (fun st1 h => ?_)
  refine jr_aload_n (q := 0) C dKT_wrong_5 rfl rfl ?_
  refine jr_iload_n (q := 2) C dKT_wrong_6 rfl rfl ?_
  refine jr_callXVvi (As := [.int l2]) (rest := []) C hlocks hnt hZ hs9 (c_KT_needKindOrNone hl0 h) (cwV 1 C.2.2.2.2.1 (tg_V tm1_199 tm1_201 tp_2 tm1_1 tm1_202) rfl rfl rfl ⟨rfl, by decide, by decide, by decide⟩ ⟨Nat.le_of_ble_eq_true rfl, Nat.le_of_ble_eq_true rfl⟩) dKT_wrong_7 (rfl : kC[0]? = _) kA_0 rfl rfl (Nat.le_of_ble_eq_true rfl) ⟨Nat.le_of_ble_eq_true rfl, Nat.le_of_ble_eq_true rfl⟩ (Nat.le_of_ble_eq_true rfl) (Nat.le_of_ble_eq_true rfl) (fun _ _ h => h) (fun st3 h => ?_)
  refine jr_iload_n (q := 3) C dKT_wrong_10 rfl rfl ?_
  refine jr_callXSvi (As := [.int l3]) (rest := []) C hlocks hnt hZ hs9 (c_KT_needPart hl0 h) (va_cwS 1 C.2.2.2.2.1 (tg_S tm2_162 tm2_163 tm1_1 tm2_164) rfl rfl rfl ⟨by decide, by decide, by decide⟩ ⟨Nat.le_of_ble_eq_true rfl, Nat.le_of_ble_eq_true rfl⟩) dKT_wrong_11 rfl rfl (Nat.le_of_ble_eq_true rfl) ⟨Nat.le_of_ble_eq_true rfl, Nat.le_of_ble_eq_true rfl⟩ (Nat.le_of_ble_eq_true rfl) (Nat.le_of_ble_eq_true rfl) (fun _ _ h => h) (fun st5 h => ?_)
  refine jr_aload_n (q := 0) C dKT_wrong_14 rfl rfl ?_
  refine jr_getf (k := 3) C dKT_wrong_15 inw_KT (rfl : kC[0]? = _) (by decide) (List.mem_cons_of_mem _ tm1_135) rfl kA_0 rfl ?_
  refine jr_iload_n (q := 1) C dKT_wrong_18 rfl rfl ?_
  refine jr_iload_n (q := 2) C dKT_wrong_19 rfl rfl ?_
  refine jr_callVi (As := [.int l1, .int l2]) (rest := []) C (c_Te_countTold h) (cwV 2 C.2.2.2.2.1 (tg_V tm2_166 tm2_167 tm2_168 tm1_4 tm2_169) rfl rfl rfl ⟨rfl, by decide, by decide, by decide⟩ ⟨Nat.le_of_ble_eq_true rfl, Nat.le_of_ble_eq_true rfl⟩) dKT_wrong_20 (rfl : kC[2]? = _) kA_2 rfl rfl (Nat.le_of_ble_eq_true rfl) ⟨Nat.le_of_ble_eq_true rfl, Nat.le_of_ble_eq_true rfl⟩ (fun r8 st7 h => ?_)
  refine jr_i2l C dKT_wrong_23 ?_
  refine jr_aload_n (q := 0) C dKT_wrong_24 rfl rfl ?_
  refine jr_getf (k := 2) C dKT_wrong_25 inw_KT (rfl : kC[0]? = _) (by decide) (List.mem_cons_of_mem _ tm1_134) rfl kA_0 rfl ?_
  refine jr_iload_n (q := 1) C dKT_wrong_28 rfl rfl ?_
  refine jr_callVi (As := [.int l1]) (rest := [.long (Int32.toInt64 r8)]) C (c_Ex_countTaught h) (cwV 1 C.2.2.2.2.1 (tg_V tm1_183 tm1_184 tm1_185 tm1_3 tm1_186) rfl rfl rfl ⟨rfl, by decide, by decide, by decide⟩ ⟨Nat.le_of_ble_eq_true rfl, Nat.le_of_ble_eq_true rfl⟩) dKT_wrong_29 (rfl : kC[1]? = _) kA_1 rfl rfl (Nat.le_of_ble_eq_true rfl) ⟨Nat.le_of_ble_eq_true rfl, Nat.le_of_ble_eq_true rfl⟩ (fun r10 st9 h => ?_)
  refine jr_i2l C dKT_wrong_32 ?_
  refine jr_iload_n (q := 3) C dKT_wrong_33 rfl rfl ?_
  refine jr_callSl (As := [.long (Int32.toInt64 r8), .long (Int32.toInt64 r10), .int l3]) (rest := []) C (c_KT_partOf h) (va_cwS 3 C.2.2.2.2.1 (tg_S tm2_170 tm2_171 tm1_1 tm2_172) rfl rfl rfl ⟨by decide, by decide, by decide⟩ ⟨Nat.le_of_ble_eq_true rfl, Nat.le_of_ble_eq_true rfl⟩) dKT_wrong_34 rfl rfl (Nat.le_of_ble_eq_true rfl) ⟨Nat.le_of_ble_eq_true rfl, Nat.le_of_ble_eq_true rfl⟩ (fun r12 st11 h => ?_)
  refine jr_l2i C dKT_wrong_37 ?_
  exact jr_retXi C hr hlocks dKT_wrong_38 (Nat.le_of_ble_eq_true rfl) (Nat.le_of_ble_eq_true rfl) h rfl
def wp_KT_right (K F : Nat) (st : jS) (l1 : Int32) (post : Int32 → jS → Prop) (xp : String → jS → Prop) : Prop :=
  wp_KT_needFeature K F st l1 (fun st1 => wp_Te_rightBy K F st1 l1 (fun r4 st3 => post r4 st3)) xp
set_option maxRecDepth 100000 in
set_option maxHeartbeats 4000000 in
theorem c_KT_right (hl0 : l.stackTraces = false) {st : jS} {l1 : Int32} {post : Int32 → jS → Prop} {xp : String → jS → Prop} (h : wp_KT_right K F st l1 post xp) : jr_Ti l yKT_right wKT_right ({ frames := 7, cells := 1, slots := 6, locals := 122 }) [.ref (ad 0), .int l1] D kC (kT cI cII cL cJ) (kW cI cII cL ad K F fr st) (kS sa) (kW cI cII cL ad K F fr) post xp 1 6 := by
  refine jr_ofXi (cc := bKT_right) (nL := 2) (lv := [(0, .ref (ad 0)), (1, .int l1)]) (by decide) rfl (Nat.le_of_ble_eq_true rfl) rfl (fun p e s m args below meth c A C hr hlocks hnt hZ hs9 => ?_)
  unfold wp_KT_right at h
  refine jr_aload_n (q := 0) C dKT_right_0 rfl rfl ?_
  refine jr_iload_n (q := 1) C dKT_right_1 rfl rfl ?_
  refine jr_callXVvi (As := [.int l1]) (rest := []) C hlocks hnt hZ hs9 (c_KT_needFeature hl0 h) (cwV 1 C.2.2.2.2.1 (tg_V tm2_68 tm2_70 tp_6 tm1_1 tm2_71) rfl rfl rfl ⟨rfl, by decide, by decide, by decide⟩ ⟨Nat.le_of_ble_eq_true rfl, Nat.le_of_ble_eq_true rfl⟩) dKT_right_2 (rfl : kC[0]? = _) kA_0 rfl rfl (Nat.le_of_ble_eq_true rfl) ⟨Nat.le_of_ble_eq_true rfl, Nat.le_of_ble_eq_true rfl⟩ (Nat.le_of_ble_eq_true rfl) (Nat.le_of_ble_eq_true rfl) (fun _ _ h => h) (fun st1 h => ?_)
  refine jr_aload_n (q := 0) C dKT_right_5 rfl rfl ?_
  refine jr_getf (k := 3) C dKT_right_6 inw_KT (rfl : kC[0]? = _) (by decide) (List.mem_cons_of_mem _ tm1_135) rfl kA_0 rfl ?_
  refine jr_iload_n (q := 1) C dKT_right_9 rfl rfl ?_
  refine jr_callVi (As := [.int l1]) (rest := []) C (c_Te_rightBy h) (cwV 1 C.2.2.2.2.1 (tg_V tm2_183 tm2_184 tm2_185 tm1_4 tm2_186) rfl rfl rfl ⟨rfl, by decide, by decide, by decide⟩ ⟨Nat.le_of_ble_eq_true rfl, Nat.le_of_ble_eq_true rfl⟩) dKT_right_10 (rfl : kC[2]? = _) kA_2 rfl rfl (Nat.le_of_ble_eq_true rfl) ⟨Nat.le_of_ble_eq_true rfl, Nat.le_of_ble_eq_true rfl⟩ (fun r4 st3 h => ?_)
  exact jr_retXi C hr hlocks dKT_right_13 (Nat.le_of_ble_eq_true rfl) (Nat.le_of_ble_eq_true rfl) h rfl
def wp_KT_best (K F : Nat) (st : jS) (l1 : Int32) (post : Int32 → jS → Prop) (xp : String → jS → Prop) : Prop :=
  wp_KT_needFeature K F st l1 (fun st1 => wp_Te_featureAt K F st1 l1 (fun r4 st3 => post r4 st3)) xp
set_option maxRecDepth 100000 in
set_option maxHeartbeats 4000000 in
theorem c_KT_best (hl0 : l.stackTraces = false) {st : jS} {l1 : Int32} {post : Int32 → jS → Prop} {xp : String → jS → Prop} (h : wp_KT_best K F st l1 post xp) : jr_Ti l yKT_best wKT_best ({ frames := 7, cells := 1, slots := 6, locals := 144 }) [.ref (ad 0), .int l1] D kC (kT cI cII cL cJ) (kW cI cII cL ad K F fr st) (kS sa) (kW cI cII cL ad K F fr) post xp 1 6 := by
  refine jr_ofXi (cc := bKT_best) (nL := 2) (lv := [(0, .ref (ad 0)), (1, .int l1)]) (by decide) rfl (Nat.le_of_ble_eq_true rfl) rfl (fun p e s m args below meth c A C hr hlocks hnt hZ hs9 => ?_)
  unfold wp_KT_best at h
  refine jr_aload_n (q := 0) C dKT_best_0 rfl rfl ?_
  refine jr_iload_n (q := 1) C dKT_best_1 rfl rfl ?_
  refine jr_callXVvi (As := [.int l1]) (rest := []) C hlocks hnt hZ hs9 (c_KT_needFeature hl0 h) (cwV 1 C.2.2.2.2.1 (tg_V tm2_68 tm2_70 tp_6 tm1_1 tm2_71) rfl rfl rfl ⟨rfl, by decide, by decide, by decide⟩ ⟨Nat.le_of_ble_eq_true rfl, Nat.le_of_ble_eq_true rfl⟩) dKT_best_2 (rfl : kC[0]? = _) kA_0 rfl rfl (Nat.le_of_ble_eq_true rfl) ⟨Nat.le_of_ble_eq_true rfl, Nat.le_of_ble_eq_true rfl⟩ (Nat.le_of_ble_eq_true rfl) (Nat.le_of_ble_eq_true rfl) (fun _ _ h => h) (fun st1 h => ?_)
  refine jr_aload_n (q := 0) C dKT_best_5 rfl rfl ?_
  refine jr_getf (k := 3) C dKT_best_6 inw_KT (rfl : kC[0]? = _) (by decide) (List.mem_cons_of_mem _ tm1_135) rfl kA_0 rfl ?_
  refine jr_iload_n (q := 1) C dKT_best_9 rfl rfl ?_
  refine jr_callVi (As := [.int l1]) (rest := []) C (c_Te_featureAt h) (cwV 1 C.2.2.2.2.1 (tg_V tm2_194 tm2_195 tm2_196 tm1_4 tm2_197) rfl rfl rfl ⟨rfl, by decide, by decide, by decide⟩ ⟨Nat.le_of_ble_eq_true rfl, Nat.le_of_ble_eq_true rfl⟩) dKT_best_10 (rfl : kC[2]? = _) kA_2 rfl rfl (Nat.le_of_ble_eq_true rfl) ⟨Nat.le_of_ble_eq_true rfl, Nat.le_of_ble_eq_true rfl⟩ (fun r4 st3 h => ?_)
  exact jr_retXi C hr hlocks dKT_best_13 (Nat.le_of_ble_eq_true rfl) (Nat.le_of_ble_eq_true rfl) h rfl
def wp_KT_unknown (K F : Nat) (st : jS) (post : Int32 → jS → Prop) : Prop :=
  wp_Te_countUnknown K F st (fun r2 st1 => post r2 st1)
set_option maxRecDepth 100000 in
set_option maxHeartbeats 4000000 in
theorem c_KT_unknown {st : jS} {post : Int32 → jS → Prop} (h : wp_KT_unknown K F st post) : jr_Mi l yKT_unknown wKT_unknown ({ frames := 6, cells := 0, slots := 0, locals := 141 }) [.ref (ad 0)] D kC (kT cI cII cL cJ) (kW cI cII cL ad K F fr st) (kW cI cII cL ad K F fr) post := by
  refine jr_ofi (cc := bKT_unknown) (nL := 1) (lv := [(0, .ref (ad 0))]) (by decide) rfl (Nat.le_of_ble_eq_true rfl) rfl (fun p e s m args below meth c A C hr hlocks => ?_)
  unfold wp_KT_unknown at h
  refine jr_aload_n (q := 0) C dKT_unknown_0 rfl rfl ?_
  refine jr_getf (k := 3) C dKT_unknown_1 inw_KT (rfl : kC[0]? = _) (by decide) (List.mem_cons_of_mem _ tm1_135) rfl kA_0 rfl ?_
  refine jr_callVi (As := []) (rest := []) C (c_Te_countUnknown h) (cwV 0 C.2.2.2.2.1 (tg_V tm1_155 tm1_156 tm1_157 tm1_4 tm1_158) rfl rfl rfl ⟨rfl, by decide, by decide, by decide⟩ ⟨Nat.le_of_ble_eq_true rfl, Nat.le_of_ble_eq_true rfl⟩) dKT_unknown_4 (rfl : kC[2]? = _) kA_2 rfl rfl (Nat.le_of_ble_eq_true rfl) ⟨Nat.le_of_ble_eq_true rfl, Nat.le_of_ble_eq_true rfl⟩ (fun r2 st1 h => ?_)
  exact jr_reti C hr hlocks dKT_unknown_7 h rfl
def wp_KT_mixed (K F : Nat) (st : jS) (l1 : Int32) (l2 : Int32) (post : Int32 → jS → Prop) (xp : String → jS → Prop) : Prop :=
  wp_KT_needKind K F st l1 (fun st1 => wp_KT_needPart K F st1 l2 (fun st3 => wp_Ex_countTaught K F st3 (-1 : Int32) (fun r6 st5 => wp_Te_countTold K F st5 (-1 : Int32) (-1 : Int32) (fun r8 st7 => wp_Te_countTold K F st7 (-1 : Int32) l1 (fun r10 st9 => wp_KT_partOf K F st9 (Int32.toInt64 r10) (Int32.toInt64 (r6 - r8)) l2 (fun r12 st11 => post (Int64.toInt32 r12) st11))))) xp) xp
set_option maxRecDepth 100000 in
set_option maxHeartbeats 4000000 in
theorem c_KT_mixed (hl0 : l.stackTraces = false) {st : jS} {l1 : Int32} {l2 : Int32} {post : Int32 → jS → Prop} {xp : String → jS → Prop} (h : wp_KT_mixed K F st l1 l2 post xp) : jr_Ti l yKT_mixed wKT_mixed ({ frames := 7, cells := 2, slots := 12, locals := 143 }) [.ref (ad 0), .int l1, .int l2] D kC (kT cI cII cL cJ) (kW cI cII cL ad K F fr st) (kS sa) (kW cI cII cL ad K F fr) post xp 2 12 := by
  refine jr_ofXi (cc := bKT_mixed) (nL := 4) (lv := [(0, .ref (ad 0)), (1, .int l1), (2, .int l2)]) (by decide) rfl (Nat.le_of_ble_eq_true rfl) rfl (fun p e s m args below meth c A C hr hlocks hnt hZ hs9 => ?_)
  unfold wp_KT_mixed at h
  refine jr_aload_n (q := 0) C dKT_mixed_0 rfl rfl ?_
  refine jr_iload_n (q := 1) C dKT_mixed_1 rfl rfl ?_
  refine jr_callXVvi (As := [.int l1]) (rest := []) C hlocks hnt hZ hs9 (c_KT_needKind hl0 h) (cwV 1 C.2.2.2.2.1 (tg_V tm1_203 tm1_205 tp_3 tm1_1 tm1_206) rfl rfl rfl ⟨rfl, by decide, by decide, by decide⟩ ⟨Nat.le_of_ble_eq_true rfl, Nat.le_of_ble_eq_true rfl⟩) dKT_mixed_2 (rfl : kC[0]? = _) kA_0 rfl rfl (Nat.le_of_ble_eq_true rfl) ⟨Nat.le_of_ble_eq_true rfl, Nat.le_of_ble_eq_true rfl⟩ (Nat.le_of_ble_eq_true rfl) (Nat.le_of_ble_eq_true rfl) (fun _ _ h => h) (fun st1 h => ?_)
  refine jr_iload_n (q := 2) C dKT_mixed_5 rfl rfl ?_
  refine jr_callXSvi (As := [.int l2]) (rest := []) C hlocks hnt hZ hs9 (c_KT_needPart hl0 h) (va_cwS 1 C.2.2.2.2.1 (tg_S tm2_162 tm2_163 tm1_1 tm2_164) rfl rfl rfl ⟨by decide, by decide, by decide⟩ ⟨Nat.le_of_ble_eq_true rfl, Nat.le_of_ble_eq_true rfl⟩) dKT_mixed_6 rfl rfl (Nat.le_of_ble_eq_true rfl) ⟨Nat.le_of_ble_eq_true rfl, Nat.le_of_ble_eq_true rfl⟩ (Nat.le_of_ble_eq_true rfl) (Nat.le_of_ble_eq_true rfl) (fun _ _ h => h) (fun st3 h => ?_)
  refine jr_aload_n (q := 0) C dKT_mixed_9 rfl rfl ?_
  refine jr_getf (k := 2) C dKT_mixed_10 inw_KT (rfl : kC[0]? = _) (by decide) (List.mem_cons_of_mem _ tm1_134) rfl kA_0 rfl ?_
  refine jr_iconst (v := -1) C dKT_mixed_13 (by decide) ?_
  refine jr_callVi (As := [.int (-1 : Int32)]) (rest := []) C (c_Ex_countTaught h) (cwV 1 C.2.2.2.2.1 (tg_V tm1_183 tm1_184 tm1_185 tm1_3 tm1_186) rfl rfl rfl ⟨rfl, by decide, by decide, by decide⟩ ⟨Nat.le_of_ble_eq_true rfl, Nat.le_of_ble_eq_true rfl⟩) dKT_mixed_14 (rfl : kC[1]? = _) kA_1 rfl rfl (Nat.le_of_ble_eq_true rfl) ⟨Nat.le_of_ble_eq_true rfl, Nat.le_of_ble_eq_true rfl⟩ (fun r6 st5 h => ?_)
  refine jr_aload_n (q := 0) C dKT_mixed_17 rfl rfl ?_
  refine jr_getf (k := 3) C dKT_mixed_18 inw_KT (rfl : kC[0]? = _) (by decide) (List.mem_cons_of_mem _ tm1_135) rfl kA_0 rfl ?_
  refine jr_iconst (v := -1) C dKT_mixed_21 (by decide) ?_
  refine jr_iconst (v := -1) C dKT_mixed_22 (by decide) ?_
  refine jr_callVi (As := [.int (-1 : Int32), .int (-1 : Int32)]) (rest := [.int r6]) C (c_Te_countTold h) (cwV 2 C.2.2.2.2.1 (tg_V tm2_166 tm2_167 tm2_168 tm1_4 tm2_169) rfl rfl rfl ⟨rfl, by decide, by decide, by decide⟩ ⟨Nat.le_of_ble_eq_true rfl, Nat.le_of_ble_eq_true rfl⟩) dKT_mixed_23 (rfl : kC[2]? = _) kA_2 rfl rfl (Nat.le_of_ble_eq_true rfl) ⟨Nat.le_of_ble_eq_true rfl, Nat.le_of_ble_eq_true rfl⟩ (fun r8 st7 h => ?_)
  refine jr_isub C dKT_mixed_26 ?_
  refine jr_istore_n (lv' := [(3, .int (r6 - r8)), (0, .ref (ad 0)), (1, .int l1), (2, .int l2)]) C dKT_mixed_27 rfl (by decide) rfl ?_
  refine jr_aload_n (q := 1) C dKT_mixed_28 rfl rfl ?_
  refine jr_getf (k := 3) C dKT_mixed_29 inw_KT (rfl : kC[0]? = _) (by decide) (List.mem_cons_of_mem _ tm1_135) rfl kA_0 rfl ?_
  refine jr_iconst (v := -1) C dKT_mixed_32 (by decide) ?_
  refine jr_iload_n (q := 2) C dKT_mixed_33 rfl rfl ?_
  refine jr_callVi (As := [.int (-1 : Int32), .int l1]) (rest := []) C (c_Te_countTold h) (cwV 2 C.2.2.2.2.1 (tg_V tm2_166 tm2_167 tm2_168 tm1_4 tm2_169) rfl rfl rfl ⟨rfl, by decide, by decide, by decide⟩ ⟨Nat.le_of_ble_eq_true rfl, Nat.le_of_ble_eq_true rfl⟩) dKT_mixed_34 (rfl : kC[2]? = _) kA_2 rfl rfl (Nat.le_of_ble_eq_true rfl) ⟨Nat.le_of_ble_eq_true rfl, Nat.le_of_ble_eq_true rfl⟩ (fun r10 st9 h => ?_)
  refine jr_i2l C dKT_mixed_37 ?_
  refine jr_iload_n (q := 0) C dKT_mixed_38 rfl rfl ?_
  refine jr_i2l C dKT_mixed_39 ?_
  refine jr_iload_n (q := 3) C dKT_mixed_40 rfl rfl ?_
  refine jr_callSl (As := [.long (Int32.toInt64 r10), .long (Int32.toInt64 (r6 - r8)), .int l2]) (rest := []) C (c_KT_partOf h) (va_cwS 3 C.2.2.2.2.1 (tg_S tm2_170 tm2_171 tm1_1 tm2_172) rfl rfl rfl ⟨by decide, by decide, by decide⟩ ⟨Nat.le_of_ble_eq_true rfl, Nat.le_of_ble_eq_true rfl⟩) dKT_mixed_41 rfl rfl (Nat.le_of_ble_eq_true rfl) ⟨Nat.le_of_ble_eq_true rfl, Nat.le_of_ble_eq_true rfl⟩ (fun r12 st11 h => ?_)
  refine jr_l2i C dKT_mixed_44 ?_
  exact jr_retXi C hr hlocks dKT_mixed_45 (Nat.le_of_ble_eq_true rfl) (Nat.le_of_ble_eq_true rfl) h rfl
def wp_KT_groups (K F : Nat) (st : jS) (l1 : Int32) (post : Int32 → jS → Prop) (xp : String → jS → Prop) : Prop :=
  wp_KT_needWithin K F st l1 (0 : Int32) (st 0 1) (fun st1 => wp_Ex_countGroups K F st1 l1 (fun r4 st3 => post r4 st3)) xp
set_option maxRecDepth 100000 in
set_option maxHeartbeats 4000000 in
theorem c_KT_groups (hl0 : l.stackTraces = false) {st : jS} {l1 : Int32} {post : Int32 → jS → Prop} {xp : String → jS → Prop} (h : wp_KT_groups K F st l1 post xp) : jr_Ti l yKT_groups wKT_groups ({ frames := 7, cells := 1, slots := 6, locals := 112 }) [.ref (ad 0), .int l1] D kC (kT cI cII cL cJ) (kW cI cII cL ad K F fr st) (kS sa) (kW cI cII cL ad K F fr) post xp 1 6 := by
  refine jr_ofXi (cc := bKT_groups) (nL := 2) (lv := [(0, .ref (ad 0)), (1, .int l1)]) (by decide) rfl (Nat.le_of_ble_eq_true rfl) rfl (fun p e s m args below meth c A C hr hlocks hnt hZ hs9 => ?_)
  unfold wp_KT_groups at h
  refine jr_iload_n (q := 1) C dKT_groups_0 rfl rfl ?_
  refine jr_iconst (v := 0) C dKT_groups_1 (by decide) ?_
  refine jr_aload_n (q := 0) C dKT_groups_2 rfl rfl ?_
  refine jr_getf (k := 1) C dKT_groups_3 inw_KT (rfl : kC[0]? = _) (by decide) (List.mem_cons_of_mem _ tm1_133) rfl kA_0 rfl ?_
  refine jr_callXSvi (As := [.int l1, .int (0 : Int32), .int (st 0 1)]) (rest := []) C hlocks hnt hZ hs9 (c_KT_needWithin hl0 h) (va_cwS 3 C.2.2.2.2.1 (tg_S tm2_73 tm2_74 tm1_1 tm2_75) rfl rfl rfl ⟨by decide, by decide, by decide⟩ ⟨Nat.le_of_ble_eq_true rfl, Nat.le_of_ble_eq_true rfl⟩) dKT_groups_6 rfl rfl (Nat.le_of_ble_eq_true rfl) ⟨Nat.le_of_ble_eq_true rfl, Nat.le_of_ble_eq_true rfl⟩ (Nat.le_of_ble_eq_true rfl) (Nat.le_of_ble_eq_true rfl) (fun _ _ h => h) (fun st1 h => ?_)
  refine jr_aload_n (q := 0) C dKT_groups_9 rfl rfl ?_
  refine jr_getf (k := 2) C dKT_groups_10 inw_KT (rfl : kC[0]? = _) (by decide) (List.mem_cons_of_mem _ tm1_134) rfl kA_0 rfl ?_
  refine jr_iload_n (q := 1) C dKT_groups_13 rfl rfl ?_
  refine jr_callVi (As := [.int l1]) (rest := []) C (c_Ex_countGroups h) (cwV 1 C.2.2.2.2.1 (tg_V tm2_217 tm2_218 tm2_219 tm1_3 tm2_220) rfl rfl rfl ⟨rfl, by decide, by decide, by decide⟩ ⟨Nat.le_of_ble_eq_true rfl, Nat.le_of_ble_eq_true rfl⟩) dKT_groups_14 (rfl : kC[1]? = _) kA_1 rfl rfl (Nat.le_of_ble_eq_true rfl) ⟨Nat.le_of_ble_eq_true rfl, Nat.le_of_ble_eq_true rfl⟩ (fun r4 st3 h => ?_)
  exact jr_retXi C hr hlocks dKT_groups_17 (Nat.le_of_ble_eq_true rfl) (Nat.le_of_ble_eq_true rfl) h rfl
def wp_KT_nearest (K F : Nat) (st : jS) (l1 : Int32) (l2 : Int32) (post : Int32 → jS → Prop) (xp : String → jS → Prop) : Prop :=
  wp_KT_needExample K F st l1 (fun st1 => ((0 ≤ l2 → wp_Ex_neighbour K F st1 l1 l2 (fun r4 st3 => post r4 st3)) ∧ (¬ 0 ≤ l2 → xp "java/lang/IllegalArgumentException" st1))) xp
set_option maxRecDepth 100000 in
set_option maxHeartbeats 4000000 in
theorem c_KT_nearest (hl0 : l.stackTraces = false) {st : jS} {l1 : Int32} {l2 : Int32} {post : Int32 → jS → Prop} {xp : String → jS → Prop} (h : wp_KT_nearest K F st l1 l2 post xp) : jr_Ti l yKT_nearest wKT_nearest ({ frames := 7, cells := 2, slots := 12, locals := 111 }) [.ref (ad 0), .int l1, .int l2] D kC (kT cI cII cL cJ) (kW cI cII cL ad K F fr st) (kS sa) (kW cI cII cL ad K F fr) post xp 2 12 := by
  refine jr_ofXi (cc := bKT_nearest) (nL := 3) (lv := [(0, .ref (ad 0)), (1, .int l1), (2, .int l2)]) (by decide) rfl (Nat.le_of_ble_eq_true rfl) rfl (fun p e s m args below meth c A C hr hlocks hnt hZ hs9 => ?_)
  unfold wp_KT_nearest at h
  refine jr_aload_n (q := 0) C dKT_nearest_0 rfl rfl ?_
  refine jr_iload_n (q := 1) C dKT_nearest_1 rfl rfl ?_
  refine jr_callXVvi (As := [.int l1]) (rest := []) C hlocks hnt hZ hs9 (c_KT_needExample hl0 h) (cwV 1 C.2.2.2.2.1 (tg_V tm2_63 tm2_65 tp_5 tm1_1 tm2_66) rfl rfl rfl ⟨rfl, by decide, by decide, by decide⟩ ⟨Nat.le_of_ble_eq_true rfl, Nat.le_of_ble_eq_true rfl⟩) dKT_nearest_2 (rfl : kC[0]? = _) kA_0 rfl rfl (Nat.le_of_ble_eq_true rfl) ⟨Nat.le_of_ble_eq_true rfl, Nat.le_of_ble_eq_true rfl⟩ (Nat.le_of_ble_eq_true rfl) (Nat.le_of_ble_eq_true rfl) (fun _ _ h => h) (fun st1 h => ?_)
  refine jr_iload_n (q := 2) C dKT_nearest_5 rfl rfl ?_
  refine jr_if_ge (tgt := 19) C dKT_nearest_6 (by decide) (fun z => ?_) (fun z => ?_)
  · have h := h.1 z
    refine jr_aload_n (q := 0) C dKT_nearest_19 rfl rfl ?_
    refine jr_getf (k := 2) C dKT_nearest_20 inw_KT (rfl : kC[0]? = _) (by decide) (List.mem_cons_of_mem _ tm1_134) rfl kA_0 rfl ?_
    refine jr_iload_n (q := 1) C dKT_nearest_23 rfl rfl ?_
    refine jr_iload_n (q := 2) C dKT_nearest_24 rfl rfl ?_
    refine jr_callVi (As := [.int l1, .int l2]) (rest := []) C (c_Ex_neighbour h) (cwV 2 C.2.2.2.2.1 (tg_V tm2_234 tm2_235 tm2_236 tm1_3 tm2_237) rfl rfl rfl ⟨rfl, by decide, by decide, by decide⟩ ⟨Nat.le_of_ble_eq_true rfl, Nat.le_of_ble_eq_true rfl⟩) dKT_nearest_25 (rfl : kC[1]? = _) kA_1 rfl rfl (Nat.le_of_ble_eq_true rfl) ⟨Nat.le_of_ble_eq_true rfl, Nat.le_of_ble_eq_true rfl⟩ (fun r4 st3 h => ?_)
    exact jr_retXi C hr hlocks dKT_nearest_28 (Nat.le_of_ble_eq_true rfl) (Nat.le_of_ble_eq_true rfl) h rfl
  · have h := h.2 z
    exact jr_throwS C hl0 hZ hlocks hnt (ks_6 hs9) tf_139 tfn (C.2.2.2.2.1 _ (List.mem_cons_of_mem _ tm2_76)) (C.2.2.2.2.1 _ (List.mem_cons_of_mem _ tm1_13)) (th_139_143 C) (tx_139_143) dKT_nearest_9 dKT_nearest_12 dKT_nearest_13 dKT_nearest_15 dKT_nearest_18 (Nat.le_of_ble_eq_true rfl) (Nat.le_of_ble_eq_true rfl) (Nat.le_of_ble_eq_true rfl) (Nat.le_of_ble_eq_true rfl) (Nat.le_of_ble_eq_true rfl) (Nat.le_of_ble_eq_true rfl) h rfl
def wp_KT_distance (K F : Nat) (st : jS) (l1 : Int32) (l2 : Int32) (post : Int32 → jS → Prop) (xp : String → jS → Prop) : Prop :=
  wp_KT_needExample K F st l1 (fun st1 => wp_KT_needExample K F st1 l2 (fun st3 => wp_Ex_squares K F st3 l1 l2 (fun r6 st5 => post r6 st5)) xp) xp
set_option maxRecDepth 100000 in
set_option maxHeartbeats 4000000 in
theorem c_KT_distance (hl0 : l.stackTraces = false) {st : jS} {l1 : Int32} {l2 : Int32} {post : Int32 → jS → Prop} {xp : String → jS → Prop} (h : wp_KT_distance K F st l1 l2 post xp) : jr_Ti l yKT_distance wKT_distance ({ frames := 7, cells := 2, slots := 12, locals := 111 }) [.ref (ad 0), .int l1, .int l2] D kC (kT cI cII cL cJ) (kW cI cII cL ad K F fr st) (kS sa) (kW cI cII cL ad K F fr) post xp 2 12 := by
  refine jr_ofXi (cc := bKT_distance) (nL := 3) (lv := [(0, .ref (ad 0)), (1, .int l1), (2, .int l2)]) (by decide) rfl (Nat.le_of_ble_eq_true rfl) rfl (fun p e s m args below meth c A C hr hlocks hnt hZ hs9 => ?_)
  unfold wp_KT_distance at h
  refine jr_aload_n (q := 0) C dKT_distance_0 rfl rfl ?_
  refine jr_iload_n (q := 1) C dKT_distance_1 rfl rfl ?_
  refine jr_callXVvi (As := [.int l1]) (rest := []) C hlocks hnt hZ hs9 (c_KT_needExample hl0 h) (cwV 1 C.2.2.2.2.1 (tg_V tm2_63 tm2_65 tp_5 tm1_1 tm2_66) rfl rfl rfl ⟨rfl, by decide, by decide, by decide⟩ ⟨Nat.le_of_ble_eq_true rfl, Nat.le_of_ble_eq_true rfl⟩) dKT_distance_2 (rfl : kC[0]? = _) kA_0 rfl rfl (Nat.le_of_ble_eq_true rfl) ⟨Nat.le_of_ble_eq_true rfl, Nat.le_of_ble_eq_true rfl⟩ (Nat.le_of_ble_eq_true rfl) (Nat.le_of_ble_eq_true rfl) (fun _ _ h => h) (fun st1 h => ?_)
  refine jr_aload_n (q := 0) C dKT_distance_5 rfl rfl ?_
  refine jr_iload_n (q := 2) C dKT_distance_6 rfl rfl ?_
  refine jr_callXVvi (As := [.int l2]) (rest := []) C hlocks hnt hZ hs9 (c_KT_needExample hl0 h) (cwV 1 C.2.2.2.2.1 (tg_V tm2_63 tm2_65 tp_5 tm1_1 tm2_66) rfl rfl rfl ⟨rfl, by decide, by decide, by decide⟩ ⟨Nat.le_of_ble_eq_true rfl, Nat.le_of_ble_eq_true rfl⟩) dKT_distance_7 (rfl : kC[0]? = _) kA_0 rfl rfl (Nat.le_of_ble_eq_true rfl) ⟨Nat.le_of_ble_eq_true rfl, Nat.le_of_ble_eq_true rfl⟩ (Nat.le_of_ble_eq_true rfl) (Nat.le_of_ble_eq_true rfl) (fun _ _ h => h) (fun st3 h => ?_)
  refine jr_aload_n (q := 0) C dKT_distance_10 rfl rfl ?_
  refine jr_getf (k := 2) C dKT_distance_11 inw_KT (rfl : kC[0]? = _) (by decide) (List.mem_cons_of_mem _ tm1_134) rfl kA_0 rfl ?_
  refine jr_iload_n (q := 1) C dKT_distance_14 rfl rfl ?_
  refine jr_iload_n (q := 2) C dKT_distance_15 rfl rfl ?_
  refine jr_callVi (As := [.int l1, .int l2]) (rest := []) C (c_Ex_squares h) (cwV 2 C.2.2.2.2.1 (tg_V tm3_20 tm3_7 tm3_8 tm1_3 tm3_9) rfl rfl rfl ⟨rfl, by decide, by decide, by decide⟩ ⟨Nat.le_of_ble_eq_true rfl, Nat.le_of_ble_eq_true rfl⟩) dKT_distance_16 (rfl : kC[1]? = _) kA_1 rfl rfl (Nat.le_of_ble_eq_true rfl) ⟨Nat.le_of_ble_eq_true rfl, Nat.le_of_ble_eq_true rfl⟩ (fun r6 st5 h => ?_)
  exact jr_retXi C hr hlocks dKT_distance_19 (Nat.le_of_ble_eq_true rfl) (Nat.le_of_ble_eq_true rfl) h rfl
def wp_KT_needPlace (K F : Nat) (st : jS) (l0 : Int32) (l1 : Int32) (post : jS → Prop) (xp : String → jS → Prop) : Prop :=
  wp_KT_needWithin K F st l0 (-100 : Int32) (100 : Int32) (fun st1 => wp_KT_needWithin K F st1 l1 (-100 : Int32) (100 : Int32) (fun st3 => post st3) xp) xp
set_option maxRecDepth 100000 in
set_option maxHeartbeats 4000000 in
theorem c_KT_needPlace (hl0 : l.stackTraces = false) {st : jS} {l0 : Int32} {l1 : Int32} {post : jS → Prop} {xp : String → jS → Prop} (h : wp_KT_needPlace K F st l0 l1 post xp) : jr_Tv l yKT_needPlace wKT_needPlace ({ frames := 7, cells := 2, slots := 12, locals := 112 }) [.int l0, .int l1] D kC (kT cI cII cL cJ) (kW cI cII cL ad K F fr st) (kS sa) (kW cI cII cL ad K F fr) post xp 2 12 := by
  refine jr_ofXv (cc := bKT_needPlace) (nL := 2) (lv := [(0, .int l0), (1, .int l1)]) (by decide) rfl (Nat.le_of_ble_eq_true rfl) rfl (fun p e s m args below meth c A C hr hlocks hnt hZ hs9 => ?_)
  unfold wp_KT_needPlace at h
  refine jr_iload_n (q := 0) C dKT_needPlace_0 rfl rfl ?_
  refine jr_bipush (v := -100) C dKT_needPlace_1 (by decide) ?_
  refine jr_bipush (v := 100) C dKT_needPlace_3 (by decide) ?_
  refine jr_callXSvv (As := [.int l0, .int (-100 : Int32), .int (100 : Int32)]) (rest := []) C hlocks hnt hZ hs9 (c_KT_needWithin hl0 h) (va_cwS 3 C.2.2.2.2.1 (tg_S tm2_73 tm2_74 tm1_1 tm2_75) rfl rfl rfl ⟨by decide, by decide, by decide⟩ ⟨Nat.le_of_ble_eq_true rfl, Nat.le_of_ble_eq_true rfl⟩) dKT_needPlace_5 rfl rfl (Nat.le_of_ble_eq_true rfl) ⟨Nat.le_of_ble_eq_true rfl, Nat.le_of_ble_eq_true rfl⟩ (Nat.le_of_ble_eq_true rfl) (Nat.le_of_ble_eq_true rfl) (fun _ _ h => h) (fun st1 h => ?_)
  refine jr_iload_n (q := 1) C dKT_needPlace_8 rfl rfl ?_
  refine jr_bipush (v := -100) C dKT_needPlace_9 (by decide) ?_
  refine jr_bipush (v := 100) C dKT_needPlace_11 (by decide) ?_
  refine jr_callXSvv (As := [.int l1, .int (-100 : Int32), .int (100 : Int32)]) (rest := []) C hlocks hnt hZ hs9 (c_KT_needWithin hl0 h) (va_cwS 3 C.2.2.2.2.1 (tg_S tm2_73 tm2_74 tm1_1 tm2_75) rfl rfl rfl ⟨by decide, by decide, by decide⟩ ⟨Nat.le_of_ble_eq_true rfl, Nat.le_of_ble_eq_true rfl⟩) dKT_needPlace_13 rfl rfl (Nat.le_of_ble_eq_true rfl) ⟨Nat.le_of_ble_eq_true rfl, Nat.le_of_ble_eq_true rfl⟩ (Nat.le_of_ble_eq_true rfl) (Nat.le_of_ble_eq_true rfl) (fun _ _ h => h) (fun st3 h => ?_)
  exact jr_retXv C hr hlocks dKT_needPlace_16 (Nat.le_of_ble_eq_true rfl) (Nat.le_of_ble_eq_true rfl) h rfl
def wp_KT_haul (K F : Nat) (st : jS) (l1 : Int32) (l2 : Int32) (post : Int32 → jS → Prop) (xp : String → jS → Prop) : Prop :=
  wp_KT_needPlace K F st l1 l2 (fun st1 => (((st1 3 4) < (12 : Int32) → wp_Ha_add K F st1 l1 l2 (fun r4 st3 => post r4 st3)) ∧ (¬ (st1 3 4) < (12 : Int32) → xp "java/lang/IllegalStateException" st1))) xp
set_option maxRecDepth 100000 in
set_option maxHeartbeats 4000000 in
theorem c_KT_haul (hl0 : l.stackTraces = false) {st : jS} {l1 : Int32} {l2 : Int32} {post : Int32 → jS → Prop} {xp : String → jS → Prop} (h : wp_KT_haul K F st l1 l2 post xp) : jr_Ti l yKT_haul wKT_haul ({ frames := 8, cells := 3, slots := 18, locals := 133 }) [.ref (ad 0), .int l1, .int l2] D kC (kT cI cII cL cJ) (kW cI cII cL ad K F fr st) (kS sa) (kW cI cII cL ad K F fr) post xp 3 18 := by
  refine jr_ofXi (cc := bKT_haul) (nL := 3) (lv := [(0, .ref (ad 0)), (1, .int l1), (2, .int l2)]) (by decide) rfl (Nat.le_of_ble_eq_true rfl) rfl (fun p e s m args below meth c A C hr hlocks hnt hZ hs9 => ?_)
  unfold wp_KT_haul at h
  refine jr_iload_n (q := 1) C dKT_haul_0 rfl rfl ?_
  refine jr_iload_n (q := 2) C dKT_haul_1 rfl rfl ?_
  refine jr_callXSvi (As := [.int l1, .int l2]) (rest := []) C hlocks hnt hZ hs9 (c_KT_needPlace hl0 h) (va_cwS 2 C.2.2.2.2.1 (tg_S tm3_28 tm3_29 tm1_1 tm3_30) rfl rfl rfl ⟨by decide, by decide, by decide⟩ ⟨Nat.le_of_ble_eq_true rfl, Nat.le_of_ble_eq_true rfl⟩) dKT_haul_2 rfl rfl (Nat.le_of_ble_eq_true rfl) ⟨Nat.le_of_ble_eq_true rfl, Nat.le_of_ble_eq_true rfl⟩ (Nat.le_of_ble_eq_true rfl) (Nat.le_of_ble_eq_true rfl) (fun _ _ h => h) (fun st1 h => ?_)
  refine jr_aload_n (q := 0) C dKT_haul_5 rfl rfl ?_
  refine jr_getf (k := 4) C dKT_haul_6 inw_KT (rfl : kC[0]? = _) (by decide) (List.mem_cons_of_mem _ tm1_136) rfl kA_0 rfl ?_
  refine jr_getf (k := 4) C dKT_haul_9 inw_Ha (rfl : kC[3]? = _) (by decide) (List.mem_cons_of_mem _ tm1_102) rfl kA_3 rfl ?_
  refine jr_bipush (v := 12) C dKT_haul_12 (by decide) ?_
  refine jr_icmp_lt (tgt := 27) C dKT_haul_14 (by decide) (fun z => ?_) (fun z => ?_)
  · have h := h.1 z
    refine jr_aload_n (q := 0) C dKT_haul_27 rfl rfl ?_
    refine jr_getf (k := 4) C dKT_haul_28 inw_KT (rfl : kC[0]? = _) (by decide) (List.mem_cons_of_mem _ tm1_136) rfl kA_0 rfl ?_
    refine jr_iload_n (q := 1) C dKT_haul_31 rfl rfl ?_
    refine jr_iload_n (q := 2) C dKT_haul_32 rfl rfl ?_
    refine jr_callVi (As := [.int l1, .int l2]) (rest := []) C (c_Ha_add h) (cwV 2 C.2.2.2.2.1 (tg_V tm3_32 tm3_33 tm3_34 tm1_5 tm3_35) rfl rfl rfl ⟨rfl, by decide, by decide, by decide⟩ ⟨Nat.le_of_ble_eq_true rfl, Nat.le_of_ble_eq_true rfl⟩) dKT_haul_33 (rfl : kC[3]? = _) kA_3 rfl rfl (Nat.le_of_ble_eq_true rfl) ⟨Nat.le_of_ble_eq_true rfl, Nat.le_of_ble_eq_true rfl⟩ (fun r4 st3 h => ?_)
    exact jr_retXi C hr hlocks dKT_haul_36 (Nat.le_of_ble_eq_true rfl) (Nat.le_of_ble_eq_true rfl) h rfl
  · have h := h.2 z
    exact jr_throwS C hl0 hZ hlocks hnt (ks_7 hs9) tf_63 tfn (C.2.2.2.2.1 _ (List.mem_cons_of_mem _ tm2_35)) (C.2.2.2.2.1 _ (List.mem_cons_of_mem _ tm1_12)) (th_63_67 C) (tx_63_67) dKT_haul_17 dKT_haul_20 dKT_haul_21 dKT_haul_23 dKT_haul_26 (Nat.le_of_ble_eq_true rfl) (Nat.le_of_ble_eq_true rfl) (Nat.le_of_ble_eq_true rfl) (Nat.le_of_ble_eq_true rfl) (Nat.le_of_ble_eq_true rfl) (Nat.le_of_ble_eq_true rfl) h rfl
def wp_KT_needHaul (K F : Nat) (st : jS) (l1 : Int32) (post : jS → Prop) (xp : String → jS → Prop) : Prop :=
  ((l1 < 0 → xp "java/lang/IndexOutOfBoundsException" st) ∧ (¬ l1 < 0 → ((l1 < (st 3 4) → post st) ∧ (¬ l1 < (st 3 4) → xp "java/lang/IndexOutOfBoundsException" st))))
set_option maxRecDepth 100000 in
set_option maxHeartbeats 4000000 in
theorem c_KT_needHaul (hl0 : l.stackTraces = false) {st : jS} {l1 : Int32} {post : jS → Prop} {xp : String → jS → Prop} (h : wp_KT_needHaul K F st l1 post xp) : jr_Tv l yKT_needHaul wKT_needHaul ({ frames := 6, cells := 1, slots := 6, locals := 90 }) [.ref (ad 0), .int l1] D kC (kT cI cII cL cJ) (kW cI cII cL ad K F fr st) (kS sa) (kW cI cII cL ad K F fr) post xp 1 6 := by
  refine jr_ofXv (cc := bKT_needHaul) (nL := 2) (lv := [(0, .ref (ad 0)), (1, .int l1)]) (by decide) rfl (Nat.le_of_ble_eq_true rfl) rfl (fun p e s m args below meth c A C hr hlocks hnt hZ hs9 => ?_)
  unfold wp_KT_needHaul at h
  refine jr_iload_n (q := 1) C dKT_needHaul_0 rfl rfl ?_
  refine jr_if_lt (tgt := 15) C dKT_needHaul_1 (by decide) (fun z => ?_) (fun z => ?_)
  · have h := h.1 z
    exact jr_throwS C hl0 hZ hlocks hnt (ks_8 hs9) tf_186 tfn (C.2.2.2.2.1 _ (List.mem_cons_of_mem _ tm1_207)) (C.2.2.2.2.1 _ (List.mem_cons_of_mem _ tm1_11)) (th_186_190 C) (tx_186_190) dKT_needHaul_15 dKT_needHaul_18 dKT_needHaul_19 dKT_needHaul_21 dKT_needHaul_24 (Nat.le_of_ble_eq_true rfl) (Nat.le_of_ble_eq_true rfl) (Nat.le_of_ble_eq_true rfl) (Nat.le_of_ble_eq_true rfl) (Nat.le_of_ble_eq_true rfl) (Nat.le_of_ble_eq_true rfl) h rfl
  · have h := h.2 z
    refine jr_iload_n (q := 1) C dKT_needHaul_4 rfl rfl ?_
    refine jr_aload_n (q := 0) C dKT_needHaul_5 rfl rfl ?_
    refine jr_getf (k := 4) C dKT_needHaul_6 inw_KT (rfl : kC[0]? = _) (by decide) (List.mem_cons_of_mem _ tm1_136) rfl kA_0 rfl ?_
    refine jr_getf (k := 4) C dKT_needHaul_9 inw_Ha (rfl : kC[3]? = _) (by decide) (List.mem_cons_of_mem _ tm1_102) rfl kA_3 rfl ?_
    refine jr_icmp_lt (tgt := 25) C dKT_needHaul_12 (by decide) (fun z => ?_) (fun z => ?_)
    · have h := h.1 z
      exact jr_retXv C hr hlocks dKT_needHaul_25 (Nat.le_of_ble_eq_true rfl) (Nat.le_of_ble_eq_true rfl) h rfl
    · have h := h.2 z
      exact jr_throwS C hl0 hZ hlocks hnt (ks_8 hs9) tf_186 tfn (C.2.2.2.2.1 _ (List.mem_cons_of_mem _ tm1_207)) (C.2.2.2.2.1 _ (List.mem_cons_of_mem _ tm1_11)) (th_186_190 C) (tx_186_190) dKT_needHaul_15 dKT_needHaul_18 dKT_needHaul_19 dKT_needHaul_21 dKT_needHaul_24 (Nat.le_of_ble_eq_true rfl) (Nat.le_of_ble_eq_true rfl) (Nat.le_of_ble_eq_true rfl) (Nat.le_of_ble_eq_true rfl) (Nat.le_of_ble_eq_true rfl) (Nat.le_of_ble_eq_true rfl) h rfl
def wp_KT_grams (K F : Nat) (st : jS) (l1 : Int32) (l2 : Int32) (l3 : Int32) (post : Int32 → jS → Prop) (xp : String → jS → Prop) : Prop :=
  wp_KT_needHaul K F st l1 (fun st1 => wp_KT_needKind K F st1 l2 (fun st3 => wp_KT_needWithin K F st3 l3 (0 : Int32) (1000 : Int32) (fun st5 => vp_in l1 12 ∧ vp_in l2 K ∧ vp_in l1 12 ∧ vp_in l2 K ∧ post (st5 (39 + (Int32.toNatClampNeg l1)) (Int32.toNatClampNeg l2)) (jq st5 (39 + (Int32.toNatClampNeg l1)) (Int32.toNatClampNeg l2) l3)) xp) xp) xp
set_option maxRecDepth 100000 in
set_option maxHeartbeats 4000000 in
theorem c_KT_grams (hl0 : l.stackTraces = false) {st : jS} {l1 : Int32} {l2 : Int32} {l3 : Int32} {post : Int32 → jS → Prop} {xp : String → jS → Prop} (h : wp_KT_grams K F st l1 l2 l3 post xp) : jr_Ti l yKT_grams wKT_grams ({ frames := 7, cells := 3, slots := 18, locals := 112 }) [.ref (ad 0), .int l1, .int l2, .int l3] D kC (kT cI cII cL cJ) (kW cI cII cL ad K F fr st) (kS sa) (kW cI cII cL ad K F fr) post xp 3 18 := by
  refine jr_ofXi (cc := bKT_grams) (nL := 5) (lv := [(0, .ref (ad 0)), (1, .int l1), (2, .int l2), (3, .int l3)]) (by decide) rfl (Nat.le_of_ble_eq_true rfl) rfl (fun p e s m args below meth c A C hr hlocks hnt hZ hs9 => ?_)
  unfold wp_KT_grams at h
  refine jr_aload_n (q := 0) C dKT_grams_0 rfl rfl ?_
  refine jr_iload_n (q := 1) C dKT_grams_1 rfl rfl ?_
  refine jr_callXVvi (As := [.int l1]) (rest := []) C hlocks hnt hZ hs9 (c_KT_needHaul hl0 h) (cwV 1 C.2.2.2.2.1 (tg_V tm3_43 tm3_45 tp_12 tm1_1 tm3_46) rfl rfl rfl ⟨rfl, by decide, by decide, by decide⟩ ⟨Nat.le_of_ble_eq_true rfl, Nat.le_of_ble_eq_true rfl⟩) dKT_grams_2 (rfl : kC[0]? = _) kA_0 rfl rfl (Nat.le_of_ble_eq_true rfl) ⟨Nat.le_of_ble_eq_true rfl, Nat.le_of_ble_eq_true rfl⟩ (Nat.le_of_ble_eq_true rfl) (Nat.le_of_ble_eq_true rfl) (fun _ _ h => h) (fun st1 h => ?_)
  refine jr_aload_n (q := 0) C dKT_grams_5 rfl rfl ?_
  refine jr_iload_n (q := 2) C dKT_grams_6 rfl rfl ?_
  refine jr_callXVvi (As := [.int l2]) (rest := []) C hlocks hnt hZ hs9 (c_KT_needKind hl0 h) (cwV 1 C.2.2.2.2.1 (tg_V tm1_203 tm1_205 tp_3 tm1_1 tm1_206) rfl rfl rfl ⟨rfl, by decide, by decide, by decide⟩ ⟨Nat.le_of_ble_eq_true rfl, Nat.le_of_ble_eq_true rfl⟩) dKT_grams_7 (rfl : kC[0]? = _) kA_0 rfl rfl (Nat.le_of_ble_eq_true rfl) ⟨Nat.le_of_ble_eq_true rfl, Nat.le_of_ble_eq_true rfl⟩ (Nat.le_of_ble_eq_true rfl) (Nat.le_of_ble_eq_true rfl) (fun _ _ h => h) (fun st3 h => ?_)
  refine jr_iload_n (q := 3) C dKT_grams_10 rfl rfl ?_
  refine jr_iconst (v := 0) C dKT_grams_11 (by decide) ?_
  refine jr_sipush (v := 1000) C dKT_grams_12 (by decide) ?_
  refine jr_callXSvi (As := [.int l3, .int (0 : Int32), .int (1000 : Int32)]) (rest := []) C hlocks hnt hZ hs9 (c_KT_needWithin hl0 h) (va_cwS 3 C.2.2.2.2.1 (tg_S tm2_73 tm2_74 tm1_1 tm2_75) rfl rfl rfl ⟨by decide, by decide, by decide⟩ ⟨Nat.le_of_ble_eq_true rfl, Nat.le_of_ble_eq_true rfl⟩) dKT_grams_15 rfl rfl (Nat.le_of_ble_eq_true rfl) ⟨Nat.le_of_ble_eq_true rfl, Nat.le_of_ble_eq_true rfl⟩ (Nat.le_of_ble_eq_true rfl) (Nat.le_of_ble_eq_true rfl) (fun _ _ h => h) (fun st5 h => ?_)
  refine jr_aload_n (q := 0) C dKT_grams_18 rfl rfl ?_
  refine jr_getf (k := 4) C dKT_grams_19 inw_KT (rfl : kC[0]? = _) (by decide) (List.mem_cons_of_mem _ tm1_136) rfl kA_0 rfl ?_
  refine jr_getf (k := 3) C dKT_grams_22 inw_Ha (rfl : kC[3]? = _) (by decide) (List.mem_cons_of_mem _ tm1_100) rfl kA_3 rfl ?_
  refine jr_iload_n (q := 1) C dKT_grams_25 rfl rfl ?_
  obtain ⟨h7, h⟩ := h
  refine jr_alda (t0 := 1) C dKT_grams_26 kA_14 rfl h7 (kE_cat h7) ?_
  refine jr_iload_n (q := 2) C dKT_grams_27 rfl rfl ?_
  obtain ⟨h8, h⟩ := h
  refine jr_iald (t0 := 0) C dKT_grams_28 (kA_rowcat h7) rfl h8 ?_
  refine jr_istore (lv' := [(4, .int (st5 (39 + (Int32.toNatClampNeg l1)) (Int32.toNatClampNeg l2))), (0, .ref (ad 0)), (1, .int l1), (2, .int l2), (3, .int l3)]) C dKT_grams_29 (by decide) rfl ?_
  refine jr_aload_n (q := 1) C dKT_grams_31 rfl rfl ?_
  refine jr_getf (k := 4) C dKT_grams_32 inw_KT (rfl : kC[0]? = _) (by decide) (List.mem_cons_of_mem _ tm1_136) rfl kA_0 rfl ?_
  refine jr_getf (k := 3) C dKT_grams_35 inw_Ha (rfl : kC[3]? = _) (by decide) (List.mem_cons_of_mem _ tm1_100) rfl kA_3 rfl ?_
  refine jr_iload_n (q := 2) C dKT_grams_38 rfl rfl ?_
  obtain ⟨h9, h⟩ := h
  refine jr_alda (t0 := 1) C dKT_grams_39 kA_14 rfl h9 (kE_cat h9) ?_
  refine jr_iload_n (q := 3) C dKT_grams_40 rfl rfl ?_
  refine jr_iload_n (q := 4) C dKT_grams_41 rfl rfl ?_
  obtain ⟨h10, h⟩ := h
  refine jr_iast (t0 := 0) C dKT_grams_42 (kA_rowcat h9) rfl h10 ?_
  refine jr_ws (ws' := kW cI cII cL ad K F fr (jq st5 (39 + (Int32.toNatClampNeg l1)) (Int32.toNatClampNeg l2) l3)) (kP_rowcat h9) ?_
  refine jr_iload (q := 0) C dKT_grams_43 rfl ?_
  exact jr_retXi C hr hlocks dKT_grams_45 (Nat.le_of_ble_eq_true rfl) (Nat.le_of_ble_eq_true rfl) h rfl
def wp_KT_share (K F : Nat) (st : jS) (l1 : Int32) (l2 : Int32) (l3 : Int32) (l4 : Int32) (post : Int64 → jS → Prop) (xp : String → jS → Prop) : Prop :=
  wp_KT_needKind K F st l3 (fun st1 => wp_KT_needPart K F st1 l4 (fun st3 => wp_KT_needPlace K F st3 l1 l2 (fun st5 => wp_Ha_sharePart K F st5 l1 l2 l3 l4 (fun r8 st7 => post r8 st7)) xp) xp) xp
set_option maxRecDepth 100000 in
set_option maxHeartbeats 4000000 in
theorem c_KT_share (hl0 : l.stackTraces = false) {st : jS} {l1 : Int32} {l2 : Int32} {l3 : Int32} {l4 : Int32} {post : Int64 → jS → Prop} {xp : String → jS → Prop} (h : wp_KT_share K F st l1 l2 l3 l4 post xp) : jr_Tl l yKT_share wKT_share ({ frames := 8, cells := 4, slots := 24, locals := 133 }) [.ref (ad 0), .int l1, .int l2, .int l3, .int l4] D kC (kT cI cII cL cJ) (kW cI cII cL ad K F fr st) (kS sa) (kW cI cII cL ad K F fr) post xp 4 24 := by
  refine jr_ofXl (cc := bKT_share) (nL := 5) (lv := [(0, .ref (ad 0)), (1, .int l1), (2, .int l2), (3, .int l3), (4, .int l4)]) (by decide) rfl (Nat.le_of_ble_eq_true rfl) rfl (fun p e s m args below meth c A C hr hlocks hnt hZ hs9 => ?_)
  unfold wp_KT_share at h
  refine jr_aload_n (q := 0) C dKT_share_0 rfl rfl ?_
  refine jr_iload_n (q := 3) C dKT_share_1 rfl rfl ?_
  refine jr_callXVvl (As := [.int l3]) (rest := []) C hlocks hnt hZ hs9 (c_KT_needKind hl0 h) (cwV 1 C.2.2.2.2.1 (tg_V tm1_203 tm1_205 tp_3 tm1_1 tm1_206) rfl rfl rfl ⟨rfl, by decide, by decide, by decide⟩ ⟨Nat.le_of_ble_eq_true rfl, Nat.le_of_ble_eq_true rfl⟩) dKT_share_2 (rfl : kC[0]? = _) kA_0 rfl rfl (Nat.le_of_ble_eq_true rfl) ⟨Nat.le_of_ble_eq_true rfl, Nat.le_of_ble_eq_true rfl⟩ (Nat.le_of_ble_eq_true rfl) (Nat.le_of_ble_eq_true rfl) (fun _ _ h => h) (fun st1 h => ?_)
  refine jr_iload (q := 4) C dKT_share_5 rfl ?_
  refine jr_callXSvl (As := [.int l4]) (rest := []) C hlocks hnt hZ hs9 (c_KT_needPart hl0 h) (va_cwS 1 C.2.2.2.2.1 (tg_S tm2_162 tm2_163 tm1_1 tm2_164) rfl rfl rfl ⟨by decide, by decide, by decide⟩ ⟨Nat.le_of_ble_eq_true rfl, Nat.le_of_ble_eq_true rfl⟩) dKT_share_7 rfl rfl (Nat.le_of_ble_eq_true rfl) ⟨Nat.le_of_ble_eq_true rfl, Nat.le_of_ble_eq_true rfl⟩ (Nat.le_of_ble_eq_true rfl) (Nat.le_of_ble_eq_true rfl) (fun _ _ h => h) (fun st3 h => ?_)
  refine jr_iload_n (q := 1) C dKT_share_10 rfl rfl ?_
  refine jr_iload_n (q := 2) C dKT_share_11 rfl rfl ?_
  refine jr_callXSvl (As := [.int l1, .int l2]) (rest := []) C hlocks hnt hZ hs9 (c_KT_needPlace hl0 h) (va_cwS 2 C.2.2.2.2.1 (tg_S tm3_28 tm3_29 tm1_1 tm3_30) rfl rfl rfl ⟨by decide, by decide, by decide⟩ ⟨Nat.le_of_ble_eq_true rfl, Nat.le_of_ble_eq_true rfl⟩) dKT_share_12 rfl rfl (Nat.le_of_ble_eq_true rfl) ⟨Nat.le_of_ble_eq_true rfl, Nat.le_of_ble_eq_true rfl⟩ (Nat.le_of_ble_eq_true rfl) (Nat.le_of_ble_eq_true rfl) (fun _ _ h => h) (fun st5 h => ?_)
  refine jr_aload_n (q := 0) C dKT_share_15 rfl rfl ?_
  refine jr_getf (k := 4) C dKT_share_16 inw_KT (rfl : kC[0]? = _) (by decide) (List.mem_cons_of_mem _ tm1_136) rfl kA_0 rfl ?_
  refine jr_iload_n (q := 1) C dKT_share_19 rfl rfl ?_
  refine jr_iload_n (q := 2) C dKT_share_20 rfl rfl ?_
  refine jr_iload_n (q := 3) C dKT_share_21 rfl rfl ?_
  refine jr_iload (q := 4) C dKT_share_22 rfl ?_
  refine jr_callVl (As := [.int l1, .int l2, .int l3, .int l4]) (rest := []) C (c_Ha_sharePart h) (cwV 4 C.2.2.2.2.1 (tg_V tm3_55 tm3_56 tm3_57 tm1_5 tm3_58) rfl rfl rfl ⟨rfl, by decide, by decide, by decide⟩ ⟨Nat.le_of_ble_eq_true rfl, Nat.le_of_ble_eq_true rfl⟩) dKT_share_24 (rfl : kC[3]? = _) kA_3 rfl rfl (Nat.le_of_ble_eq_true rfl) ⟨Nat.le_of_ble_eq_true rfl, Nat.le_of_ble_eq_true rfl⟩ (fun r8 st7 h => ?_)
  exact jr_retXl C hr hlocks dKT_share_27 (Nat.le_of_ble_eq_true rfl) (Nat.le_of_ble_eq_true rfl) h rfl
def wp_KT_law (K F : Nat) (st : jS) (l1 : Int32) (l2 : Int32) (l3 : Int32) (post : Int32 → jS → Prop) (xp : String → jS → Prop) : Prop :=
  wp_KT_needKind K F st l1 (fun st1 => wp_KT_needWithin K F st1 l2 (1 : Int32) (1000 : Int32) (fun st3 => wp_KT_needWithin K F st3 l3 (0 : Int32) (2000 : Int32) (fun st5 => vp_in l1 K ∧ wp_La_lastLength K F (Int32.toNatClampNeg l1) st5 (fun r9 st8 => ((r9 < l2 → (((st8 (51 + 3 * (Int32.toNatClampNeg l1)) 2) < (6 : Int32) → wp_La_add K F (Int32.toNatClampNeg l1) st8 l2 l3 (fun r11 st10 => post r11 st10)) ∧ (¬ (st8 (51 + 3 * (Int32.toNatClampNeg l1)) 2) < (6 : Int32) → xp "java/lang/IllegalStateException" st8))) ∧ (¬ r9 < l2 → xp "java/lang/IllegalArgumentException" st8)))) xp) xp) xp
set_option maxRecDepth 100000 in
set_option maxHeartbeats 4000000 in
theorem c_KT_law (hl0 : l.stackTraces = false) {st : jS} {l1 : Int32} {l2 : Int32} {l3 : Int32} {post : Int32 → jS → Prop} {xp : String → jS → Prop} (h : wp_KT_law K F st l1 l2 l3 post xp) : jr_Ti l yKT_law wKT_law ({ frames := 7, cells := 5, slots := 30, locals := 112 }) [.ref (ad 0), .int l1, .int l2, .int l3] D kC (kT cI cII cL cJ) (kW cI cII cL ad K F fr st) (kS sa) (kW cI cII cL ad K F fr) post xp 5 30 := by
  refine jr_ofXi (cc := bKT_law) (nL := 5) (lv := [(0, .ref (ad 0)), (1, .int l1), (2, .int l2), (3, .int l3)]) (by decide) rfl (Nat.le_of_ble_eq_true rfl) rfl (fun p e s m args below meth c A C hr hlocks hnt hZ hs9 => ?_)
  unfold wp_KT_law at h
  refine jr_aload_n (q := 0) C dKT_law_0 rfl rfl ?_
  refine jr_iload_n (q := 1) C dKT_law_1 rfl rfl ?_
  refine jr_callXVvi (As := [.int l1]) (rest := []) C hlocks hnt hZ hs9 (c_KT_needKind hl0 h) (cwV 1 C.2.2.2.2.1 (tg_V tm1_203 tm1_205 tp_3 tm1_1 tm1_206) rfl rfl rfl ⟨rfl, by decide, by decide, by decide⟩ ⟨Nat.le_of_ble_eq_true rfl, Nat.le_of_ble_eq_true rfl⟩) dKT_law_2 (rfl : kC[0]? = _) kA_0 rfl rfl (Nat.le_of_ble_eq_true rfl) ⟨Nat.le_of_ble_eq_true rfl, Nat.le_of_ble_eq_true rfl⟩ (Nat.le_of_ble_eq_true rfl) (Nat.le_of_ble_eq_true rfl) (fun _ _ h => h) (fun st1 h => ?_)
  refine jr_iload_n (q := 2) C dKT_law_5 rfl rfl ?_
  refine jr_iconst (v := 1) C dKT_law_6 (by decide) ?_
  refine jr_sipush (v := 1000) C dKT_law_7 (by decide) ?_
  refine jr_callXSvi (As := [.int l2, .int (1 : Int32), .int (1000 : Int32)]) (rest := []) C hlocks hnt hZ hs9 (c_KT_needWithin hl0 h) (va_cwS 3 C.2.2.2.2.1 (tg_S tm2_73 tm2_74 tm1_1 tm2_75) rfl rfl rfl ⟨by decide, by decide, by decide⟩ ⟨Nat.le_of_ble_eq_true rfl, Nat.le_of_ble_eq_true rfl⟩) dKT_law_10 rfl rfl (Nat.le_of_ble_eq_true rfl) ⟨Nat.le_of_ble_eq_true rfl, Nat.le_of_ble_eq_true rfl⟩ (Nat.le_of_ble_eq_true rfl) (Nat.le_of_ble_eq_true rfl) (fun _ _ h => h) (fun st3 h => ?_)
  refine jr_iload_n (q := 3) C dKT_law_13 rfl rfl ?_
  refine jr_iconst (v := 0) C dKT_law_14 (by decide) ?_
  refine jr_sipush (v := 2000) C dKT_law_15 (by decide) ?_
  refine jr_callXSvi (As := [.int l3, .int (0 : Int32), .int (2000 : Int32)]) (rest := []) C hlocks hnt hZ hs9 (c_KT_needWithin hl0 h) (va_cwS 3 C.2.2.2.2.1 (tg_S tm2_73 tm2_74 tm1_1 tm2_75) rfl rfl rfl ⟨by decide, by decide, by decide⟩ ⟨Nat.le_of_ble_eq_true rfl, Nat.le_of_ble_eq_true rfl⟩) dKT_law_18 rfl rfl (Nat.le_of_ble_eq_true rfl) ⟨Nat.le_of_ble_eq_true rfl, Nat.le_of_ble_eq_true rfl⟩ (Nat.le_of_ble_eq_true rfl) (Nat.le_of_ble_eq_true rfl) (fun _ _ h => h) (fun st5 h => ?_)
  refine jr_aload_n (q := 0) C dKT_law_21 rfl rfl ?_
  refine jr_getf (k := 5) C dKT_law_22 inw_KT (rfl : kC[0]? = _) (by decide) (List.mem_cons_of_mem _ tm1_137) rfl kA_0 rfl ?_
  refine jr_iload_n (q := 1) C dKT_law_25 rfl rfl ?_
  obtain ⟨h7, h⟩ := h
  refine jr_aldo (t0 := 2) C dKT_law_26 kA_4 rfl h7 (kE_law h7) ?_
  refine jr_astore (lv' := [(4, .ref (ad (51 + 3 * (Int32.toNatClampNeg l1)))), (0, .ref (ad 0)), (1, .int l1), (2, .int l2), (3, .int l3)]) C dKT_law_27 (by decide) rfl ?_
  refine jr_iload_n (q := 3) C dKT_law_29 rfl rfl ?_
  refine jr_aload (q := 0) C dKT_law_30 rfl ?_
  refine jr_callVi (As := []) (rest := [.int l2]) C (c_La_lastLength (Int32.toNatClampNeg l1) (vi_lt h7) h) (cwV 0 C.2.2.2.2.1 (tg_V tm3_80 tm3_81 tm3_82 tm1_6 tm3_83) rfl rfl rfl ⟨rfl, by decide, by decide, by decide⟩ ⟨Nat.le_of_ble_eq_true rfl, Nat.le_of_ble_eq_true rfl⟩) dKT_law_32 (rfl : kC[4]? = _) (kA_law (vi_lt h7)) rfl rfl (Nat.le_of_ble_eq_true rfl) ⟨Nat.le_of_ble_eq_true rfl, Nat.le_of_ble_eq_true rfl⟩ (fun r9 st8 h => ?_)
  refine jr_icmp_gt (tgt := 48) C dKT_law_35 (by decide) (fun z => ?_) (fun z => ?_)
  · have h := h.1 z
    refine jr_aload (q := 0) C dKT_law_48 rfl ?_
    refine jr_getf (k := 2) C dKT_law_50 inw_La (rfl : kC[4]? = _) (by decide) (List.mem_cons_of_mem _ tm1_124) rfl (kA_law (vi_lt h7)) rfl ?_
    refine jr_bipush (v := 6) C dKT_law_53 (by decide) ?_
    refine jr_icmp_lt (tgt := 68) C dKT_law_55 (by decide) (fun z => ?_) (fun z => ?_)
    · have h := h.1 z
      refine jr_aload (q := 0) C dKT_law_68 rfl ?_
      refine jr_iload_n (q := 3) C dKT_law_70 rfl rfl ?_
      refine jr_iload_n (q := 4) C dKT_law_71 rfl rfl ?_
      refine jr_callVi (As := [.int l2, .int l3]) (rest := []) C (c_La_add (Int32.toNatClampNeg l1) (vi_lt h7) h) (cwV 2 C.2.2.2.2.1 (tg_V tm3_86 tm3_87 tm3_88 tm1_6 tm3_89) rfl rfl rfl ⟨rfl, by decide, by decide, by decide⟩ ⟨Nat.le_of_ble_eq_true rfl, Nat.le_of_ble_eq_true rfl⟩) dKT_law_72 (rfl : kC[4]? = _) (kA_law (vi_lt h7)) rfl rfl (Nat.le_of_ble_eq_true rfl) ⟨Nat.le_of_ble_eq_true rfl, Nat.le_of_ble_eq_true rfl⟩ (fun r11 st10 h => ?_)
      exact jr_retXi C hr hlocks dKT_law_75 (Nat.le_of_ble_eq_true rfl) (Nat.le_of_ble_eq_true rfl) h rfl
    · have h := h.2 z
      exact jr_throwS C hl0 hZ hlocks hnt (ks_10 hs9) tf_63 tfn (C.2.2.2.2.1 _ (List.mem_cons_of_mem _ tm2_35)) (C.2.2.2.2.1 _ (List.mem_cons_of_mem _ tm1_12)) (th_63_67 C) (tx_63_67) dKT_law_58 dKT_law_61 dKT_law_62 dKT_law_64 dKT_law_67 (Nat.le_of_ble_eq_true rfl) (Nat.le_of_ble_eq_true rfl) (Nat.le_of_ble_eq_true rfl) (Nat.le_of_ble_eq_true rfl) (Nat.le_of_ble_eq_true rfl) (Nat.le_of_ble_eq_true rfl) h rfl
  · have h := h.2 z
    exact jr_throwS C hl0 hZ hlocks hnt (ks_9 hs9) tf_139 tfn (C.2.2.2.2.1 _ (List.mem_cons_of_mem _ tm2_76)) (C.2.2.2.2.1 _ (List.mem_cons_of_mem _ tm1_13)) (th_139_143 C) (tx_139_143) dKT_law_38 dKT_law_41 dKT_law_42 dKT_law_44 dKT_law_47 (Nat.le_of_ble_eq_true rfl) (Nat.le_of_ble_eq_true rfl) (Nat.le_of_ble_eq_true rfl) (Nat.le_of_ble_eq_true rfl) (Nat.le_of_ble_eq_true rfl) (Nat.le_of_ble_eq_true rfl) h rfl
def wp_KT_strength (K F : Nat) (st : jS) (l1 : Int32) (l2 : Int32) (post : Int32 → jS → Prop) (xp : String → jS → Prop) : Prop :=
  wp_KT_needKind K F st l1 (fun st1 => vp_in l1 K ∧ wp_La_strengthAt K F (Int32.toNatClampNeg l1) st1 l2 (fun r5 st4 => post r5 st4)) xp
set_option maxRecDepth 100000 in
set_option maxHeartbeats 4000000 in
theorem c_KT_strength (hl0 : l.stackTraces = false) {st : jS} {l1 : Int32} {l2 : Int32} {post : Int32 → jS → Prop} {xp : String → jS → Prop} (h : wp_KT_strength K F st l1 l2 post xp) : jr_Ti l yKT_strength wKT_strength ({ frames := 7, cells := 1, slots := 6, locals := 111 }) [.ref (ad 0), .int l1, .int l2] D kC (kT cI cII cL cJ) (kW cI cII cL ad K F fr st) (kS sa) (kW cI cII cL ad K F fr) post xp 1 6 := by
  refine jr_ofXi (cc := bKT_strength) (nL := 3) (lv := [(0, .ref (ad 0)), (1, .int l1), (2, .int l2)]) (by decide) rfl (Nat.le_of_ble_eq_true rfl) rfl (fun p e s m args below meth c A C hr hlocks hnt hZ hs9 => ?_)
  unfold wp_KT_strength at h
  refine jr_aload_n (q := 0) C dKT_strength_0 rfl rfl ?_
  refine jr_iload_n (q := 1) C dKT_strength_1 rfl rfl ?_
  refine jr_callXVvi (As := [.int l1]) (rest := []) C hlocks hnt hZ hs9 (c_KT_needKind hl0 h) (cwV 1 C.2.2.2.2.1 (tg_V tm1_203 tm1_205 tp_3 tm1_1 tm1_206) rfl rfl rfl ⟨rfl, by decide, by decide, by decide⟩ ⟨Nat.le_of_ble_eq_true rfl, Nat.le_of_ble_eq_true rfl⟩) dKT_strength_2 (rfl : kC[0]? = _) kA_0 rfl rfl (Nat.le_of_ble_eq_true rfl) ⟨Nat.le_of_ble_eq_true rfl, Nat.le_of_ble_eq_true rfl⟩ (Nat.le_of_ble_eq_true rfl) (Nat.le_of_ble_eq_true rfl) (fun _ _ h => h) (fun st1 h => ?_)
  refine jr_aload_n (q := 0) C dKT_strength_5 rfl rfl ?_
  refine jr_getf (k := 5) C dKT_strength_6 inw_KT (rfl : kC[0]? = _) (by decide) (List.mem_cons_of_mem _ tm1_137) rfl kA_0 rfl ?_
  refine jr_iload_n (q := 1) C dKT_strength_9 rfl rfl ?_
  obtain ⟨h3, h⟩ := h
  refine jr_aldo (t0 := 2) C dKT_strength_10 kA_4 rfl h3 (kE_law h3) ?_
  refine jr_iload_n (q := 2) C dKT_strength_11 rfl rfl ?_
  refine jr_callVi (As := [.int l2]) (rest := []) C (c_La_strengthAt (Int32.toNatClampNeg l1) (vi_lt h3) h) (cwV 1 C.2.2.2.2.1 (tg_V tm3_97 tm3_98 tm3_99 tm1_6 tm3_100) rfl rfl rfl ⟨rfl, by decide, by decide, by decide⟩ ⟨Nat.le_of_ble_eq_true rfl, Nat.le_of_ble_eq_true rfl⟩) dKT_strength_12 (rfl : kC[4]? = _) (kA_law (vi_lt h3)) rfl rfl (Nat.le_of_ble_eq_true rfl) ⟨Nat.le_of_ble_eq_true rfl, Nat.le_of_ble_eq_true rfl⟩ (fun r5 st4 h => ?_)
  exact jr_retXi C hr hlocks dKT_strength_15 (Nat.le_of_ble_eq_true rfl) (Nat.le_of_ble_eq_true rfl) h rfl
def wp_KT_length (K F : Nat) (st : jS) (l1 : Int32) (l2 : Int32) (post : Int32 → jS → Prop) (xp : String → jS → Prop) : Prop :=
  wp_KT_needKind K F st l1 (fun st1 => vp_in l1 K ∧ wp_La_leastLength K F (Int32.toNatClampNeg l1) st1 l2 (fun r5 st4 => post r5 st4)) xp
set_option maxRecDepth 100000 in
set_option maxHeartbeats 4000000 in
theorem c_KT_length (hl0 : l.stackTraces = false) {st : jS} {l1 : Int32} {l2 : Int32} {post : Int32 → jS → Prop} {xp : String → jS → Prop} (h : wp_KT_length K F st l1 l2 post xp) : jr_Ti l yKT_length wKT_length ({ frames := 7, cells := 1, slots := 6, locals := 111 }) [.ref (ad 0), .int l1, .int l2] D kC (kT cI cII cL cJ) (kW cI cII cL ad K F fr st) (kS sa) (kW cI cII cL ad K F fr) post xp 1 6 := by
  refine jr_ofXi (cc := bKT_length) (nL := 3) (lv := [(0, .ref (ad 0)), (1, .int l1), (2, .int l2)]) (by decide) rfl (Nat.le_of_ble_eq_true rfl) rfl (fun p e s m args below meth c A C hr hlocks hnt hZ hs9 => ?_)
  unfold wp_KT_length at h
  refine jr_aload_n (q := 0) C dKT_length_0 rfl rfl ?_
  refine jr_iload_n (q := 1) C dKT_length_1 rfl rfl ?_
  refine jr_callXVvi (As := [.int l1]) (rest := []) C hlocks hnt hZ hs9 (c_KT_needKind hl0 h) (cwV 1 C.2.2.2.2.1 (tg_V tm1_203 tm1_205 tp_3 tm1_1 tm1_206) rfl rfl rfl ⟨rfl, by decide, by decide, by decide⟩ ⟨Nat.le_of_ble_eq_true rfl, Nat.le_of_ble_eq_true rfl⟩) dKT_length_2 (rfl : kC[0]? = _) kA_0 rfl rfl (Nat.le_of_ble_eq_true rfl) ⟨Nat.le_of_ble_eq_true rfl, Nat.le_of_ble_eq_true rfl⟩ (Nat.le_of_ble_eq_true rfl) (Nat.le_of_ble_eq_true rfl) (fun _ _ h => h) (fun st1 h => ?_)
  refine jr_aload_n (q := 0) C dKT_length_5 rfl rfl ?_
  refine jr_getf (k := 5) C dKT_length_6 inw_KT (rfl : kC[0]? = _) (by decide) (List.mem_cons_of_mem _ tm1_137) rfl kA_0 rfl ?_
  refine jr_iload_n (q := 1) C dKT_length_9 rfl rfl ?_
  obtain ⟨h3, h⟩ := h
  refine jr_aldo (t0 := 2) C dKT_length_10 kA_4 rfl h3 (kE_law h3) ?_
  refine jr_iload_n (q := 2) C dKT_length_11 rfl rfl ?_
  refine jr_callVi (As := [.int l2]) (rest := []) C (c_La_leastLength (Int32.toNatClampNeg l1) (vi_lt h3) h) (cwV 1 C.2.2.2.2.1 (tg_V tm3_115 tm3_116 tm3_117 tm1_6 tm3_118) rfl rfl rfl ⟨rfl, by decide, by decide, by decide⟩ ⟨Nat.le_of_ble_eq_true rfl, Nat.le_of_ble_eq_true rfl⟩) dKT_length_12 (rfl : kC[4]? = _) (kA_law (vi_lt h3)) rfl rfl (Nat.le_of_ble_eq_true rfl) ⟨Nat.le_of_ble_eq_true rfl, Nat.le_of_ble_eq_true rfl⟩ (fun r5 st4 h => ?_)
  exact jr_retXi C hr hlocks dKT_length_15 (Nat.le_of_ble_eq_true rfl) (Nat.le_of_ble_eq_true rfl) h rfl
def wp_KT_count (K F : Nat) (st : jS) (l1 : Int32) (post : Int32 → jS → Prop) : Prop :=
  ((l1 = (0 : Int32) → post (st 1 5) st) ∧ (l1 = (1 : Int32) → wp_Ex_countTaught K F st (-1 : Int32) (fun r2 st1 => post ((st 1 5) - r2) st1)) ∧ (l1 = (2 : Int32) → post (st 3 4) st) ∧ (l1 = (3 : Int32) → post (st 0 0) st) ∧ (l1 = (4 : Int32) → post (st 0 1) st) ∧ (¬ l1 = (0 : Int32) → ¬ l1 = (1 : Int32) → ¬ l1 = (2 : Int32) → ¬ l1 = (3 : Int32) → ¬ l1 = (4 : Int32) → post (-1 : Int32) st))
set_option maxRecDepth 100000 in
set_option maxHeartbeats 4000000 in
theorem c_KT_count {st : jS} {l1 : Int32} {post : Int32 → jS → Prop} (h : wp_KT_count K F st l1 post) : jr_Mi l yKT_count wKT_count ({ frames := 1, cells := 0, slots := 0, locals := 23 }) [.ref (ad 0), .int l1] D kC (kT cI cII cL cJ) (kW cI cII cL ad K F fr st) (kW cI cII cL ad K F fr) post := by
  refine jr_ofi (cc := bKT_count) (nL := 2) (lv := [(0, .ref (ad 0)), (1, .int l1)]) (by decide) rfl (Nat.le_of_ble_eq_true rfl) rfl (fun p e s m args below meth c A C hr hlocks => ?_)
  unfold wp_KT_count at h
  refine jr_iload_n (q := 1) C dKT_count_0 rfl rfl ?_
  by_cases z0 : l1 = (0 : Int32)
  · have h := h.1 z0
    refine jr_tblIn (tgt := 36) C dKT_count_1 (by rw [z0]; decide) (by rw [z0]; decide) (by rw [z0]; rfl) (by decide) ?_
    refine jr_aload_n (q := 0) C dKT_count_36 rfl rfl ?_
    refine jr_getf (k := 2) C dKT_count_37 inw_KT (rfl : kC[0]? = _) (by decide) (List.mem_cons_of_mem _ tm1_134) rfl kA_0 rfl ?_
    refine jr_getf (k := 5) C dKT_count_40 inw_Ex (rfl : kC[1]? = _) (by decide) (List.mem_cons_of_mem _ tm1_47) rfl kA_1 rfl ?_
    exact jr_reti C hr hlocks dKT_count_43 h rfl
  by_cases z1 : l1 = (1 : Int32)
  · have h := h.2.1 z1
    refine jr_tblIn (tgt := 44) C dKT_count_1 (by rw [z1]; decide) (by rw [z1]; decide) (by rw [z1]; rfl) (by decide) ?_
    refine jr_aload_n (q := 0) C dKT_count_44 rfl rfl ?_
    refine jr_getf (k := 2) C dKT_count_45 inw_KT (rfl : kC[0]? = _) (by decide) (List.mem_cons_of_mem _ tm1_134) rfl kA_0 rfl ?_
    refine jr_getf (k := 5) C dKT_count_48 inw_Ex (rfl : kC[1]? = _) (by decide) (List.mem_cons_of_mem _ tm1_47) rfl kA_1 rfl ?_
    refine jr_aload_n (q := 0) C dKT_count_51 rfl rfl ?_
    refine jr_getf (k := 2) C dKT_count_52 inw_KT (rfl : kC[0]? = _) (by decide) (List.mem_cons_of_mem _ tm1_134) rfl kA_0 rfl ?_
    refine jr_iconst (v := -1) C dKT_count_55 (by decide) ?_
    refine jr_callVi (As := [.int (-1 : Int32)]) (rest := [.int (st 1 5)]) C (c_Ex_countTaught h) (cwV 1 C.2.2.2.2.1 (tg_V tm1_183 tm1_184 tm1_185 tm1_3 tm1_186) rfl rfl rfl ⟨rfl, by decide, by decide, by decide⟩ ⟨Nat.le_of_ble_eq_true rfl, Nat.le_of_ble_eq_true rfl⟩) dKT_count_56 (rfl : kC[1]? = _) kA_1 rfl rfl (Nat.le_of_ble_eq_true rfl) ⟨Nat.le_of_ble_eq_true rfl, Nat.le_of_ble_eq_true rfl⟩ (fun r2 st1 h => ?_)
    refine jr_isub C dKT_count_59 ?_
    exact jr_reti C hr hlocks dKT_count_60 h rfl
  by_cases z2 : l1 = (2 : Int32)
  · have h := h.2.2.1 z2
    refine jr_tblIn (tgt := 61) C dKT_count_1 (by rw [z2]; decide) (by rw [z2]; decide) (by rw [z2]; rfl) (by decide) ?_
    refine jr_aload_n (q := 0) C dKT_count_61 rfl rfl ?_
    refine jr_getf (k := 4) C dKT_count_62 inw_KT (rfl : kC[0]? = _) (by decide) (List.mem_cons_of_mem _ tm1_136) rfl kA_0 rfl ?_
    refine jr_getf (k := 4) C dKT_count_65 inw_Ha (rfl : kC[3]? = _) (by decide) (List.mem_cons_of_mem _ tm1_102) rfl kA_3 rfl ?_
    exact jr_reti C hr hlocks dKT_count_68 h rfl
  by_cases z3 : l1 = (3 : Int32)
  · have h := h.2.2.2.1 z3
    refine jr_tblIn (tgt := 69) C dKT_count_1 (by rw [z3]; decide) (by rw [z3]; decide) (by rw [z3]; rfl) (by decide) ?_
    refine jr_aload_n (q := 0) C dKT_count_69 rfl rfl ?_
    refine jr_getf (k := 0) C dKT_count_70 inw_KT (rfl : kC[0]? = _) (by decide) (List.mem_cons_of_mem _ tm1_132) rfl kA_0 rfl ?_
    exact jr_reti C hr hlocks dKT_count_73 h rfl
  by_cases z4 : l1 = (4 : Int32)
  · have h := h.2.2.2.2.1 z4
    refine jr_tblIn (tgt := 74) C dKT_count_1 (by rw [z4]; decide) (by rw [z4]; decide) (by rw [z4]; rfl) (by decide) ?_
    refine jr_aload_n (q := 0) C dKT_count_74 rfl rfl ?_
    refine jr_getf (k := 1) C dKT_count_75 inw_KT (rfl : kC[0]? = _) (by decide) (List.mem_cons_of_mem _ tm1_133) rfl kA_0 rfl ?_
    exact jr_reti C hr hlocks dKT_count_78 h rfl
  have h := h.2.2.2.2.2 z0 z1 z2 z3 z4
  refine jr_tblOut (tgt := 79) C dKT_count_1 (jr_sw5 z0 z1 z2 z3 z4) (by decide) ?_
  refine jr_iconst (v := -1) C dKT_count_79 (by decide) ?_
  exact jr_reti C hr hlocks dKT_count_80 h rfl
end KT
end
