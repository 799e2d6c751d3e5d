/-- the words that a method may hand on to those that it calls -/
def tw : List Cond := lw_tbl.filter goodWord
theorem tw_1 {w : Cond} {i : Nat} (h : tables_1_1[i]? = some w) (g : goodWord w = true) : w ∈ tw := by
  unfold tw lw_tbl tables_1
  exact List.mem_filter.mpr ⟨List.mem_append_right _ (List.mem_append_left _ (List.mem_of_getElem? h)), g⟩
theorem tw_2 {w : Cond} {i : Nat} (h : tables_1_2[i]? = some w) (g : goodWord w = true) : w ∈ tw := by
  unfold tw lw_tbl tables_1
  exact List.mem_filter.mpr ⟨List.mem_append_right _ (List.mem_append_right _ (List.mem_append_left _ (List.mem_of_getElem? h))), g⟩
theorem tw_3 {w : Cond} {i : Nat} (h : tables_1_3[i]? = some w) (g : goodWord w = true) : w ∈ tw := by
  unfold tw lw_tbl tables_1
  exact List.mem_filter.mpr ⟨List.mem_append_right _ (List.mem_append_right _ (List.mem_append_right _ (List.mem_append_left _ (List.mem_of_getElem? h)))), g⟩
theorem tw_4 {w : Cond} {i : Nat} (h : tables_1_4[i]? = some w) (g : goodWord w = true) : w ∈ tw := by
  unfold tw lw_tbl tables_1
  exact List.mem_filter.mpr ⟨List.mem_append_right _ (List.mem_append_right _ (List.mem_append_right _ (List.mem_append_right _ (List.mem_of_getElem? h)))), g⟩
theorem tw_p {w : Cond} {i : Nat} (h : (k2_sels lw_privs)[i]? = some w) (g : goodWord w = true) : w ∈ tw := by
  unfold tw lw_tbl
  exact List.mem_filter.mpr ⟨List.mem_append_left _ (List.mem_of_getElem? h), g⟩
theorem tw_good {c w : Cond} (hm : w ∈ tw) : w ∈ c :: tw ∧ ((w.onTables && w.keeps) = true ∨ ∃ ty, w = .arrayClass ty) := ⟨List.mem_cons_of_mem _ hm, good_of_word (List.mem_filter.mp hm).2⟩
theorem tg_N {c : Cond} {y : MethodName} {b : ByteArray} {n : Nat} {r : Option FieldType} (h5 : Cond.code y b n r ∈ tw) : GoodIn (c :: tw) (Cond.code y b n r :: tw) := by
  intro w hw
  rcases List.mem_cons.mp hw with rfl | hw
  · exact tw_good h5
  · exact tw_good hw
theorem tg_W {c : Cond} {y : MethodName} {b : ByteArray} {n : Nat} {r : Option FieldType} {hh : List (Nat × Nat × Nat × Nat)} (h5 : Cond.codeWith y b n r hh ∈ tw) : GoodIn (c :: tw) (Cond.codeWith y b n r hh :: tw) := by
  intro w hw
  rcases List.mem_cons.mp hw with rfl | hw
  · exact tw_good h5
  · exact tw_good hw
theorem tg_app {c : Cond} {L ws : List Cond} (hL : ∀ w ∈ L, w ∈ tw) (h : GoodIn (c :: tw) ws) : GoodIn (c :: tw) (L ++ ws) := fun w hw => (List.mem_append.mp hw).elim (fun q => tw_good (hL w q)) (h w)
theorem tl_c {w : Cond} {L : List Cond} (h : w ∈ tw) (t : ∀ x ∈ L, x ∈ tw) : ∀ x ∈ w :: L, x ∈ tw := fun x hx => (List.mem_cons.mp hx).elim (fun e => e ▸ h) (t x)
theorem tl_n : ∀ x ∈ ([] : List Cond), x ∈ tw := fun _ h => nomatch h
theorem tg_V {c : Cond} {own C : String} {idx : Nat} {y : MethodName} {b : ByteArray} {n : Nat} {r : Option FieldType} (h1 : Cond.methodLink own idx y ∈ tw) (h2 : Cond.instanceMethod y ∈ tw) (h3 : Cond.selects C y y ∈ tw) (h4 : Cond.initialized C ∈ tw) (h5 : Cond.code y b n r ∈ tw) : GoodIn (c :: tw) (wsV own idx C y (Cond.code y b n r :: tw)) := tg_app (tl_c h1 (tl_c h2 (tl_c h3 (tl_c h4 tl_n)))) (tg_N h5)
theorem tg_S {c : Cond} {own : String} {idx : Nat} {y : MethodName} {b : ByteArray} {n : Nat} {r : Option FieldType} (h1 : Cond.methodLink own idx y ∈ tw) (h2 : Cond.static y ∈ tw) (h4 : Cond.initialized y.cls ∈ tw) (h5 : Cond.code y b n r ∈ tw) : GoodIn (c :: tw) (va_wsS own idx y (Cond.code y b n r :: tw)) := tg_app (tl_c h1 (tl_c h2 (tl_c h4 tl_n))) (tg_N h5)
theorem tg_SW {c : Cond} {own : String} {idx : Nat} {y : MethodName} {b : ByteArray} {n : Nat} {r : Option FieldType} {hh : List (Nat × Nat × Nat × Nat)} (h1 : Cond.methodLink own idx y ∈ tw) (h2 : Cond.static y ∈ tw) (h4 : Cond.initialized y.cls ∈ tw) (h5 : Cond.codeWith y b n r hh ∈ tw) : GoodIn (c :: tw) (va_wsS own idx y (Cond.codeWith y b n r hh :: tw)) := tg_app (tl_c h1 (tl_c h2 (tl_c h4 tl_n))) (tg_W h5)
/-- words that hold all along but aren't handed on by themselves -/
def jnw : List Cond := [Cond.castable "java/lang/IndexOutOfBoundsException" "java/lang/IndexOutOfBoundsException", Cond.declares ⟨"java/lang/RuntimeException", "<init>", "()V"⟩, Cond.declares ⟨"java/lang/RuntimeException", "<init>", "(Ljava/lang/String;)V"⟩, Cond.declares ⟨"java/lang/Exception", "<init>", "()V"⟩, Cond.declares ⟨"java/lang/Exception", "<init>", "(Ljava/lang/String;)V"⟩, Cond.declares ⟨"java/lang/Throwable", "<init>", "()V"⟩, Cond.declares ⟨"java/lang/Throwable", "<init>", "(Ljava/lang/String;)V"⟩, Cond.castable "java/lang/IllegalStateException" "java/lang/IllegalStateException", Cond.castable "java/lang/IllegalArgumentException" "java/lang/IllegalArgumentException", Cond.methodLinkNest "KindTables$Examples" 37 ⟨"KindTables", "square", "(I)I"⟩ "KindTables", Cond.methodLinkNest "KindTables$Hauls" 45 ⟨"KindTables", "square", "(I)I"⟩ "KindTables", Cond.methodLinkNest "KindTables$Hauls" 34 ⟨"KindTables", "partOf", "(JJI)J"⟩ "KindTables"]
def jN (U : State) : Prop := ∀ w ∈ jnw, va_Nw w U
theorem jnw_on : ∀ w ∈ jnw, w.onTables = true := by decide
theorem jN.same {u U : State} (hv : u.vm = U.vm) (h : jN u) : jN U := fun w hw => va_Nw.same (jnw_on w hw) hv (h w hw)
theorem jN.warm {s U : State} (hW : s.WarmedH U.vm) (h : jN s) : jN U := by
  intro w hw
  have hz := h w hw
  unfold jnw at hw
  rcases List.mem_cons.mp hw with rfl | hw
  · exact va_Nw.warmC hW hz
  rcases List.mem_cons.mp hw with rfl | hw
  · exact va_Nw.warmD hW hz
  rcases List.mem_cons.mp hw with rfl | hw
  · exact va_Nw.warmD hW hz
  rcases List.mem_cons.mp hw with rfl | hw
  · exact va_Nw.warmD hW hz
  rcases List.mem_cons.mp hw with rfl | hw
  · exact va_Nw.warmD hW hz
  rcases List.mem_cons.mp hw with rfl | hw
  · exact va_Nw.warmD hW hz
  rcases List.mem_cons.mp hw with rfl | hw
  · exact va_Nw.warmD hW hz
  rcases List.mem_cons.mp hw with rfl | hw
  · exact va_Nw.warmC hW hz
  rcases List.mem_cons.mp hw with rfl | hw
  · exact va_Nw.warmC hW hz
  rcases List.mem_cons.mp hw with rfl | hw
  · exact va_Nw.warmM hW hz
  rcases List.mem_cons.mp hw with rfl | hw
  · exact va_Nw.warmM hW hz
  rcases List.mem_cons.mp hw with rfl | hw
  · exact va_Nw.warmM hW hz
  exact nomatch hw
theorem tm1_0 : Cond.initialized "KindTablesLaw" ∈ tw := tw_1 (i := 0) rfl rfl
theorem tm1_1 : Cond.initialized "KindTables" ∈ tw := tw_1 (i := 1) rfl rfl
theorem tm1_2 : Cond.initialized "java/lang/Math" ∈ tw := tw_1 (i := 2) rfl rfl
theorem tm1_3 : Cond.initialized "KindTables$Examples" ∈ tw := tw_1 (i := 3) rfl rfl
theorem tm1_4 : Cond.initialized "KindTables$Teller" ∈ tw := tw_1 (i := 4) rfl rfl
theorem tm1_5 : Cond.initialized "KindTables$Hauls" ∈ tw := tw_1 (i := 5) rfl rfl
theorem tm1_6 : Cond.initialized "KindTables$Law" ∈ tw := tw_1 (i := 6) rfl rfl
theorem tm1_7 : Cond.initialized "KindTablesModel" ∈ tw := tw_1 (i := 7) rfl rfl
theorem tm1_8 : Cond.initialized "java/lang/Throwable" ∈ tw := tw_1 (i := 8) rfl rfl
theorem tm1_9 : Cond.initialized "java/lang/Exception" ∈ tw := tw_1 (i := 9) rfl rfl
theorem tm1_10 : Cond.initialized "java/lang/RuntimeException" ∈ tw := tw_1 (i := 10) rfl rfl
theorem tm1_11 : Cond.initialized "java/lang/IndexOutOfBoundsException" ∈ tw := tw_1 (i := 11) rfl rfl
theorem tm1_12 : Cond.initialized "java/lang/IllegalStateException" ∈ tw := tw_1 (i := 12) rfl rfl
theorem tm1_13 : Cond.initialized "java/lang/IllegalArgumentException" ∈ tw := tw_1 (i := 13) rfl rfl
theorem tm1_14 : Cond.classLink "KindTablesLaw" 8 "KindTables" ∈ tw := tw_1 (i := 14) rfl rfl
theorem tm1_15 : Cond.instantiable "KindTables" 6 ∈ tw := tw_1 (i := 15) rfl rfl
theorem tm1_16 : Cond.methodLink "KindTablesLaw" 91 ⟨"KindTables", "<init>", "(II)V"⟩ ∈ tw := tw_1 (i := 16) rfl rfl
theorem tm1_17 : Cond.instanceMethod ⟨"KindTables", "<init>", "(II)V"⟩ ∈ tw := tw_1 (i := 17) rfl rfl
theorem tm1_18 : Cond.code ⟨"KindTables", "<init>", "(II)V"⟩ prog_1_method_1_code 4 none ∈ tw := tw_1 (i := 18) rfl rfl
theorem tm1_19 : Cond.methodLink "KindTables" 1 ⟨"java/lang/Object", "<init>", "()V"⟩ ∈ tw := tw_1 (i := 19) rfl rfl
theorem tm1_20 : Cond.instanceMethod ⟨"java/lang/Object", "<init>", "()V"⟩ ∈ tw := tw_1 (i := 20) rfl rfl
theorem tm1_21 : Cond.code ⟨"java/lang/Object", "<init>", "()V"⟩ object_method_1_code 1 none ∈ tw := tw_1 (i := 21) rfl rfl
theorem tm1_22 : Cond.methodLink "KindTables" 9 ⟨"java/lang/Math", "min", "(II)I"⟩ ∈ tw := tw_1 (i := 22) rfl rfl
theorem tm1_23 : Cond.static ⟨"java/lang/Math", "min", "(II)I"⟩ ∈ tw := tw_1 (i := 23) rfl rfl
theorem tm1_24 : Cond.code ⟨"java/lang/Math", "min", "(II)I"⟩ prog_12_method_69_code 2 (some .int) ∈ tw := tw_1 (i := 24) rfl rfl
theorem tm1_25 : Cond.methodLink "KindTables" 15 ⟨"java/lang/Math", "max", "(II)I"⟩ ∈ tw := tw_1 (i := 25) rfl rfl
theorem tm1_26 : Cond.static ⟨"java/lang/Math", "max", "(II)I"⟩ ∈ tw := tw_1 (i := 26) rfl rfl
theorem tm1_27 : Cond.code ⟨"java/lang/Math", "max", "(II)I"⟩ prog_12_method_65_code 2 (some .int) ∈ tw := tw_1 (i := 27) rfl rfl
theorem tm1_28 : Cond.classLink "KindTables" 25 "KindTables$Examples" ∈ tw := tw_1 (i := 28) rfl rfl
theorem tm1_29 : Cond.instantiable "KindTables$Examples" 6 ∈ tw := tw_1 (i := 29) rfl rfl
theorem tm1_30 : Cond.methodLink "KindTables" 27 ⟨"KindTables$Examples", "<init>", "(I)V"⟩ ∈ tw := tw_1 (i := 30) rfl rfl
theorem tm1_31 : Cond.instanceMethod ⟨"KindTables$Examples", "<init>", "(I)V"⟩ ∈ tw := tw_1 (i := 31) rfl rfl
theorem tm1_32 : Cond.code ⟨"KindTables$Examples", "<init>", "(I)V"⟩ prog_2_method_1_code 3 none ∈ tw := tw_1 (i := 32) rfl rfl
theorem tm1_33 : Cond.methodLink "KindTables$Examples" 3 ⟨"java/lang/Object", "<init>", "()V"⟩ ∈ tw := tw_1 (i := 33) rfl rfl
theorem tm1_34 : Cond.classLink "KindTables$Examples" 15 "[[I" ∈ tw := tw_1 (i := 34) rfl rfl
theorem tm1_36 : Cond.fieldLink "KindTables$Examples" 9 "KindTables$Examples" "features" "I" ∈ tw := tw_1 (i := 36) rfl rfl
theorem tm1_37 : Cond.fieldLink "KindTables$Teller" 26 "KindTables$Examples" "features" "I" ∈ tw := tw_1 (i := 37) rfl rfl
theorem tm1_38 : Cond.fieldLink "KindTables$Examples" 17 "KindTables$Examples" "numbers" "[[I" ∈ tw := tw_1 (i := 38) rfl rfl
theorem tm1_39 : Cond.fieldLink "KindTables" 84 "KindTables$Examples" "numbers" "[[I" ∈ tw := tw_1 (i := 39) rfl rfl
theorem tm1_40 : Cond.fieldLink "KindTables$Examples" 20 "KindTables$Examples" "taught" "[I" ∈ tw := tw_1 (i := 40) rfl rfl
theorem tm1_41 : Cond.fieldLink "KindTables" 88 "KindTables$Examples" "taught" "[I" ∈ tw := tw_1 (i := 41) rfl rfl
theorem tm1_42 : Cond.fieldLink "KindTables$Teller" 52 "KindTables$Examples" "taught" "[I" ∈ tw := tw_1 (i := 42) rfl rfl
theorem tm1_43 : Cond.fieldLink "KindTables$Examples" 24 "KindTables$Examples" "widths" "[I" ∈ tw := tw_1 (i := 43) rfl rfl
theorem tm1_44 : Cond.fieldLink "KindTables" 92 "KindTables$Examples" "widths" "[I" ∈ tw := tw_1 (i := 44) rfl rfl
theorem tm1_45 : Cond.fieldLink "KindTables$Examples" 27 "KindTables$Examples" "groupOf" "[I" ∈ tw := tw_1 (i := 45) rfl rfl
theorem tm1_46 : Cond.fieldLink "KindTables$Examples" 30 "KindTables$Examples" "size" "I" ∈ tw := tw_1 (i := 46) rfl rfl
theorem tm1_47 : Cond.fieldLink "KindTables" 60 "KindTables$Examples" "size" "I" ∈ tw := tw_1 (i := 47) rfl rfl
theorem tm1_48 : Cond.fieldLink "KindTables$Teller" 49 "KindTables$Examples" "size" "I" ∈ tw := tw_1 (i := 48) rfl rfl
theorem tm1_49 : Cond.laysFinal "KindTables$Examples" "KindTables$Examples" "features" "I" ∈ tw := tw_1 (i := 49) rfl rfl
theorem tm1_50 : Cond.soleField "KindTables$Examples" "features" ∈ tw := tw_1 (i := 50) rfl rfl
theorem tm1_51 : Cond.laysFinal "KindTables$Examples" "KindTables$Examples" "numbers" "[[I" ∈ tw := tw_1 (i := 51) rfl rfl
theorem tm1_52 : Cond.soleField "KindTables$Examples" "numbers" ∈ tw := tw_1 (i := 52) rfl rfl
theorem tm1_53 : Cond.laysFinal "KindTables$Examples" "KindTables$Examples" "taught" "[I" ∈ tw := tw_1 (i := 53) rfl rfl
theorem tm1_54 : Cond.soleField "KindTables$Examples" "taught" ∈ tw := tw_1 (i := 54) rfl rfl
theorem tm1_55 : Cond.laysFinal "KindTables$Examples" "KindTables$Examples" "widths" "[I" ∈ tw := tw_1 (i := 55) rfl rfl
theorem tm1_56 : Cond.soleField "KindTables$Examples" "widths" ∈ tw := tw_1 (i := 56) rfl rfl
theorem tm1_57 : Cond.laysFinal "KindTables$Examples" "KindTables$Examples" "groupOf" "[I" ∈ tw := tw_1 (i := 57) rfl rfl
theorem tm1_58 : Cond.soleField "KindTables$Examples" "groupOf" ∈ tw := tw_1 (i := 58) rfl rfl
theorem tm1_59 : Cond.lays "KindTables$Examples" "KindTables$Examples" "size" "I" ∈ tw := tw_1 (i := 59) rfl rfl
theorem tm1_60 : Cond.soleField "KindTables$Examples" "size" ∈ tw := tw_1 (i := 60) rfl rfl
theorem tm1_61 : Cond.superclass "KindTables$Examples" "java/lang/Object" ∈ tw := tw_1 (i := 61) rfl rfl
theorem tm1_62 : Cond.arrayClass .int ∈ tw := tw_1 (i := 62) rfl rfl
theorem tm1_63 : Cond.classLink "KindTables" 34 "KindTables$Teller" ∈ tw := tw_1 (i := 63) rfl rfl
theorem tm1_64 : Cond.instantiable "KindTables$Teller" 6 ∈ tw := tw_1 (i := 64) rfl rfl
theorem tm1_65 : Cond.methodLink "KindTables" 36 ⟨"KindTables$Teller", "<init>", "(LKindTables$Examples;I)V"⟩ ∈ tw := tw_1 (i := 65) rfl rfl
theorem tm1_66 : Cond.instanceMethod ⟨"KindTables$Teller", "<init>", "(LKindTables$Examples;I)V"⟩ ∈ tw := tw_1 (i := 66) rfl rfl
theorem tm1_67 : Cond.code ⟨"KindTables$Teller", "<init>", "(LKindTables$Examples;I)V"⟩ prog_5_method_1_code 4 none ∈ tw := tw_1 (i := 67) rfl rfl
theorem tm1_68 : Cond.methodLink "KindTables$Teller" 3 ⟨"java/lang/Object", "<init>", "()V"⟩ ∈ tw := tw_1 (i := 68) rfl rfl
theorem tm1_69 : Cond.fieldLink "KindTables$Teller" 9 "KindTables$Teller" "examples" "LKindTables$Examples;" ∈ tw := tw_1 (i := 69) rfl rfl
theorem tm1_70 : Cond.fieldLink "KindTables$Teller" 15 "KindTables$Teller" "kinds" "I" ∈ tw := tw_1 (i := 70) rfl rfl
theorem tm1_71 : Cond.fieldLink "KindTables$Teller" 19 "KindTables$Teller" "order" "[I" ∈ tw := tw_1 (i := 71) rfl rfl
theorem tm1_72 : Cond.fieldLink "KindTables$Teller" 23 "KindTables$Teller" "tally" "[I" ∈ tw := tw_1 (i := 72) rfl rfl
theorem tm1_73 : Cond.fieldLink "KindTables$Teller" 31 "KindTables$Teller" "rights" "[I" ∈ tw := tw_1 (i := 73) rfl rfl
theorem tm1_74 : Cond.fieldLink "KindTables$Teller" 34 "KindTables$Teller" "leastVotes" "I" ∈ tw := tw_1 (i := 74) rfl rfl
theorem tm1_75 : Cond.fieldLink "KindTables" 107 "KindTables$Teller" "leastVotes" "I" ∈ tw := tw_1 (i := 75) rfl rfl
theorem tm1_76 : Cond.laysFinal "KindTables$Teller" "KindTables$Teller" "examples" "LKindTables$Examples;" ∈ tw := tw_1 (i := 76) rfl rfl
theorem tm1_77 : Cond.soleField "KindTables$Teller" "examples" ∈ tw := tw_1 (i := 77) rfl rfl
theorem tm1_78 : Cond.laysFinal "KindTables$Teller" "KindTables$Teller" "kinds" "I" ∈ tw := tw_1 (i := 78) rfl rfl
theorem tm1_79 : Cond.soleField "KindTables$Teller" "kinds" ∈ tw := tw_1 (i := 79) rfl rfl
theorem tm1_80 : Cond.laysFinal "KindTables$Teller" "KindTables$Teller" "order" "[I" ∈ tw := tw_1 (i := 80) rfl rfl
theorem tm1_81 : Cond.soleField "KindTables$Teller" "order" ∈ tw := tw_1 (i := 81) rfl rfl
theorem tm1_82 : Cond.laysFinal "KindTables$Teller" "KindTables$Teller" "tally" "[I" ∈ tw := tw_1 (i := 82) rfl rfl
theorem tm1_83 : Cond.soleField "KindTables$Teller" "tally" ∈ tw := tw_1 (i := 83) rfl rfl
theorem tm1_84 : Cond.laysFinal "KindTables$Teller" "KindTables$Teller" "rights" "[I" ∈ tw := tw_1 (i := 84) rfl rfl
theorem tm1_85 : Cond.soleField "KindTables$Teller" "rights" ∈ tw := tw_1 (i := 85) rfl rfl
theorem tm1_86 : Cond.lays "KindTables$Teller" "KindTables$Teller" "leastVotes" "I" ∈ tw := tw_1 (i := 86) rfl rfl
theorem tm1_87 : Cond.soleField "KindTables$Teller" "leastVotes" ∈ tw := tw_1 (i := 87) rfl rfl
theorem tm1_88 : Cond.superclass "KindTables$Teller" "java/lang/Object" ∈ tw := tw_1 (i := 88) rfl rfl
theorem tm1_89 : Cond.classLink "KindTables" 43 "KindTables$Hauls" ∈ tw := tw_1 (i := 89) rfl rfl
theorem tm1_90 : Cond.instantiable "KindTables$Hauls" 5 ∈ tw := tw_1 (i := 90) rfl rfl
theorem tm1_91 : Cond.methodLink "KindTables" 45 ⟨"KindTables$Hauls", "<init>", "(I)V"⟩ ∈ tw := tw_1 (i := 91) rfl rfl
theorem tm1_92 : Cond.instanceMethod ⟨"KindTables$Hauls", "<init>", "(I)V"⟩ ∈ tw := tw_1 (i := 92) rfl rfl
theorem tm1_93 : Cond.code ⟨"KindTables$Hauls", "<init>", "(I)V"⟩ prog_3_method_1_code 2 none ∈ tw := tw_1 (i := 93) rfl rfl
theorem tm1_94 : Cond.methodLink "KindTables$Hauls" 3 ⟨"java/lang/Object", "<init>", "()V"⟩ ∈ tw := tw_1 (i := 94) rfl rfl
theorem tm1_95 : Cond.classLink "KindTables$Hauls" 22 "[[I" ∈ tw := tw_1 (i := 95) rfl rfl
theorem tm1_96 : Cond.fieldLink "KindTables$Hauls" 9 "KindTables$Hauls" "kinds" "I" ∈ tw := tw_1 (i := 96) rfl rfl
theorem tm1_97 : Cond.fieldLink "KindTables$Hauls" 15 "KindTables$Hauls" "xs" "[I" ∈ tw := tw_1 (i := 97) rfl rfl
theorem tm1_98 : Cond.fieldLink "KindTables$Hauls" 19 "KindTables$Hauls" "ys" "[I" ∈ tw := tw_1 (i := 98) rfl rfl
theorem tm1_99 : Cond.fieldLink "KindTables$Hauls" 24 "KindTables$Hauls" "catches" "[[I" ∈ tw := tw_1 (i := 99) rfl rfl
theorem tm1_100 : Cond.fieldLink "KindTables" 162 "KindTables$Hauls" "catches" "[[I" ∈ tw := tw_1 (i := 100) rfl rfl
theorem tm1_101 : Cond.fieldLink "KindTables$Hauls" 27 "KindTables$Hauls" "size" "I" ∈ tw := tw_1 (i := 101) rfl rfl
theorem tm1_102 : Cond.fieldLink "KindTables" 154 "KindTables$Hauls" "size" "I" ∈ tw := tw_1 (i := 102) rfl rfl
theorem tm1_103 : Cond.laysFinal "KindTables$Hauls" "KindTables$Hauls" "kinds" "I" ∈ tw := tw_1 (i := 103) rfl rfl
theorem tm1_104 : Cond.soleField "KindTables$Hauls" "kinds" ∈ tw := tw_1 (i := 104) rfl rfl
theorem tm1_105 : Cond.laysFinal "KindTables$Hauls" "KindTables$Hauls" "xs" "[I" ∈ tw := tw_1 (i := 105) rfl rfl
theorem tm1_106 : Cond.soleField "KindTables$Hauls" "xs" ∈ tw := tw_1 (i := 106) rfl rfl
theorem tm1_107 : Cond.laysFinal "KindTables$Hauls" "KindTables$Hauls" "ys" "[I" ∈ tw := tw_1 (i := 107) rfl rfl
theorem tm1_108 : Cond.soleField "KindTables$Hauls" "ys" ∈ tw := tw_1 (i := 108) rfl rfl
theorem tm1_109 : Cond.laysFinal "KindTables$Hauls" "KindTables$Hauls" "catches" "[[I" ∈ tw := tw_1 (i := 109) rfl rfl
theorem tm1_110 : Cond.soleField "KindTables$Hauls" "catches" ∈ tw := tw_1 (i := 110) rfl rfl
theorem tm1_111 : Cond.lays "KindTables$Hauls" "KindTables$Hauls" "size" "I" ∈ tw := tw_1 (i := 111) rfl rfl
theorem tm1_112 : Cond.soleField "KindTables$Hauls" "size" ∈ tw := tw_1 (i := 112) rfl rfl
theorem tm1_113 : Cond.superclass "KindTables$Hauls" "java/lang/Object" ∈ tw := tw_1 (i := 113) rfl rfl
theorem tm1_114 : Cond.classLink "KindTables" 50 "KindTables$Law" ∈ tw := tw_1 (i := 114) rfl rfl
theorem tm1_116 : Cond.instantiable "KindTables$Law" 3 ∈ tw := tw_1 (i := 116) rfl rfl
theorem tm1_117 : Cond.methodLink "KindTables" 56 ⟨"KindTables$Law", "<init>", "()V"⟩ ∈ tw := tw_1 (i := 117) rfl rfl
theorem tm1_118 : Cond.instanceMethod ⟨"KindTables$Law", "<init>", "()V"⟩ ∈ tw := tw_1 (i := 118) rfl rfl
theorem tm1_119 : Cond.code ⟨"KindTables$Law", "<init>", "()V"⟩ prog_4_method_1_code 1 none ∈ tw := tw_1 (i := 119) rfl rfl
theorem tm1_120 : Cond.methodLink "KindTables$Law" 3 ⟨"java/lang/Object", "<init>", "()V"⟩ ∈ tw := tw_1 (i := 120) rfl rfl
theorem tm1_121 : Cond.fieldLink "KindTables$Law" 9 "KindTables$Law" "lengths" "[I" ∈ tw := tw_1 (i := 121) rfl rfl
theorem tm1_122 : Cond.fieldLink "KindTables$Law" 15 "KindTables$Law" "strengths" "[I" ∈ tw := tw_1 (i := 122) rfl rfl
theorem tm1_123 : Cond.fieldLink "KindTables$Law" 18 "KindTables$Law" "rows" "I" ∈ tw := tw_1 (i := 123) rfl rfl
theorem tm1_124 : Cond.fieldLink "KindTables" 174 "KindTables$Law" "rows" "I" ∈ tw := tw_1 (i := 124) rfl rfl
theorem tm1_125 : Cond.laysFinal "KindTables$Law" "KindTables$Law" "lengths" "[I" ∈ tw := tw_1 (i := 125) rfl rfl
theorem tm1_126 : Cond.soleField "KindTables$Law" "lengths" ∈ tw := tw_1 (i := 126) rfl rfl
theorem tm1_127 : Cond.laysFinal "KindTables$Law" "KindTables$Law" "strengths" "[I" ∈ tw := tw_1 (i := 127) rfl rfl
theorem tm1_128 : Cond.soleField "KindTables$Law" "strengths" ∈ tw := tw_1 (i := 128) rfl rfl
theorem tm1_129 : Cond.lays "KindTables$Law" "KindTables$Law" "rows" "I" ∈ tw := tw_1 (i := 129) rfl rfl
theorem tm1_130 : Cond.soleField "KindTables$Law" "rows" ∈ tw := tw_1 (i := 130) rfl rfl
theorem tm1_131 : Cond.superclass "KindTables$Law" "java/lang/Object" ∈ tw := tw_1 (i := 131) rfl rfl
theorem tm1_132 : Cond.fieldLink "KindTables" 18 "KindTables" "kinds" "I" ∈ tw := tw_1 (i := 132) rfl rfl
theorem tm1_133 : Cond.fieldLink "KindTables" 22 "KindTables" "features" "I" ∈ tw := tw_1 (i := 133) rfl rfl
theorem tm1_134 : Cond.fieldLink "KindTables" 30 "KindTables" "examples" "LKindTables$Examples;" ∈ tw := tw_1 (i := 134) rfl rfl
theorem tm1_135 : Cond.fieldLink "KindTables" 39 "KindTables" "teller" "LKindTables$Teller;" ∈ tw := tw_1 (i := 135) rfl rfl
theorem tm1_136 : Cond.fieldLink "KindTables" 46 "KindTables" "hauls" "LKindTables$Hauls;" ∈ tw := tw_1 (i := 136) rfl rfl
theorem tm1_137 : Cond.fieldLink "KindTables" 52 "KindTables" "laws" "[LKindTables$Law;" ∈ tw := tw_1 (i := 137) rfl rfl
theorem tm1_138 : Cond.laysFinal "KindTables" "KindTables" "kinds" "I" ∈ tw := tw_1 (i := 138) rfl rfl
theorem tm1_139 : Cond.soleField "KindTables" "kinds" ∈ tw := tw_1 (i := 139) rfl rfl
theorem tm1_140 : Cond.laysFinal "KindTables" "KindTables" "features" "I" ∈ tw := tw_1 (i := 140) rfl rfl
theorem tm1_141 : Cond.soleField "KindTables" "features" ∈ tw := tw_1 (i := 141) rfl rfl
theorem tm1_142 : Cond.laysFinal "KindTables" "KindTables" "examples" "LKindTables$Examples;" ∈ tw := tw_1 (i := 142) rfl rfl
theorem tm1_143 : Cond.soleField "KindTables" "examples" ∈ tw := tw_1 (i := 143) rfl rfl
theorem tm1_144 : Cond.laysFinal "KindTables" "KindTables" "teller" "LKindTables$Teller;" ∈ tw := tw_1 (i := 144) rfl rfl
theorem tm1_145 : Cond.soleField "KindTables" "teller" ∈ tw := tw_1 (i := 145) rfl rfl
theorem tm1_146 : Cond.laysFinal "KindTables" "KindTables" "hauls" "LKindTables$Hauls;" ∈ tw := tw_1 (i := 146) rfl rfl
theorem tm1_147 : Cond.soleField "KindTables" "hauls" ∈ tw := tw_1 (i := 147) rfl rfl
theorem tm1_148 : Cond.laysFinal "KindTables" "KindTables" "laws" "[LKindTables$Law;" ∈ tw := tw_1 (i := 148) rfl rfl
theorem tm1_149 : Cond.soleField "KindTables" "laws" ∈ tw := tw_1 (i := 149) rfl rfl
theorem tm1_150 : Cond.superclass "KindTables" "java/lang/Object" ∈ tw := tw_1 (i := 150) rfl rfl
theorem tm1_151 : Cond.methodLink "KindTablesLaw" 140 ⟨"KindTables", "unknown", "()I"⟩ ∈ tw := tw_1 (i := 151) rfl rfl
theorem tm1_152 : Cond.instanceMethod ⟨"KindTables", "unknown", "()I"⟩ ∈ tw := tw_1 (i := 152) rfl rfl
theorem tm1_153 : Cond.selects "KindTables" ⟨"KindTables", "unknown", "()I"⟩ ⟨"KindTables", "unknown", "()I"⟩ ∈ tw := tw_1 (i := 153) rfl rfl
theorem tm1_154 : Cond.code ⟨"KindTables", "unknown", "()I"⟩ prog_1_method_14_code 1 (some .int) ∈ tw := tw_1 (i := 154) rfl rfl
theorem tm1_155 : Cond.methodLink "KindTables" 132 ⟨"KindTables$Teller", "countUnknown", "()I"⟩ ∈ tw := tw_1 (i := 155) rfl rfl
theorem tm1_156 : Cond.instanceMethod ⟨"KindTables$Teller", "countUnknown", "()I"⟩ ∈ tw := tw_1 (i := 156) rfl rfl
theorem tm1_157 : Cond.selects "KindTables$Teller" ⟨"KindTables$Teller", "countUnknown", "()I"⟩ ⟨"KindTables$Teller", "countUnknown", "()I"⟩ ∈ tw := tw_1 (i := 157) rfl rfl
theorem tm1_158 : Cond.code ⟨"KindTables$Teller", "countUnknown", "()I"⟩ prog_5_method_9_code 3 (some .int) ∈ tw := tw_1 (i := 158) rfl rfl
theorem tm1_159 : Cond.methodLink "KindTables$Teller" 59 ⟨"KindTables$Teller", "told", "(I)I"⟩ ∈ tw := tw_1 (i := 159) rfl rfl
theorem tm1_160 : Cond.instanceMethod ⟨"KindTables$Teller", "told", "(I)I"⟩ ∈ tw := tw_1 (i := 160) rfl rfl
theorem tm1_161 : Cond.selects "KindTables$Teller" ⟨"KindTables$Teller", "told", "(I)I"⟩ ⟨"KindTables$Teller", "told", "(I)I"⟩ ∈ tw := tw_1 (i := 161) rfl rfl
theorem tm1_162 : Cond.code ⟨"KindTables$Teller", "told", "(I)I"⟩ prog_5_method_5_code 2 (some .int) ∈ tw := tw_1 (i := 162) rfl rfl
theorem tm1_163 : Cond.methodLink "KindTables$Teller" 45 ⟨"KindTables$Teller", "toldBy", "(III)I"⟩ ∈ tw := tw_1 (i := 163) rfl rfl
theorem tm1_165 : Cond.instanceMethod ⟨"KindTables$Teller", "toldBy", "(III)I"⟩ ∈ tw := tw_1 (i := 165) rfl rfl
theorem tm1_166 : Cond.code ⟨"KindTables$Teller", "toldBy", "(III)I"⟩ prog_5_method_7_code 6 (some .int) ∈ tw := tw_1 (i := 166) rfl rfl
theorem tm1_167 : Cond.methodLink "KindTables$Teller" 41 ⟨"KindTables$Teller", "takeVotes", "(III)V"⟩ ∈ tw := tw_1 (i := 167) rfl rfl
theorem tm1_169 : Cond.instanceMethod ⟨"KindTables$Teller", "takeVotes", "(III)V"⟩ ∈ tw := tw_1 (i := 169) rfl rfl
theorem tm1_170 : Cond.code ⟨"KindTables$Teller", "takeVotes", "(III)V"⟩ prog_5_method_6_code 6 none ∈ tw := tw_1 (i := 170) rfl rfl
theorem tm1_171 : Cond.methodLink "KindTables$Teller" 55 ⟨"KindTables$Examples", "sameCells", "(IIII)I"⟩ ∈ tw := tw_1 (i := 171) rfl rfl
theorem tm1_172 : Cond.instanceMethod ⟨"KindTables$Examples", "sameCells", "(IIII)I"⟩ ∈ tw := tw_1 (i := 172) rfl rfl
theorem tm1_173 : Cond.selects "KindTables$Examples" ⟨"KindTables$Examples", "sameCells", "(IIII)I"⟩ ⟨"KindTables$Examples", "sameCells", "(IIII)I"⟩ ∈ tw := tw_1 (i := 173) rfl rfl
theorem tm1_174 : Cond.code ⟨"KindTables$Examples", "sameCells", "(IIII)I"⟩ prog_2_method_4_code 7 (some .int) ∈ tw := tw_1 (i := 174) rfl rfl
theorem tm1_175 : Cond.methodLink "KindTables$Examples" 33 ⟨"KindTables$Examples", "cellOf", "(II)I"⟩ ∈ tw := tw_1 (i := 175) rfl rfl
theorem tm1_176 : Cond.instanceMethod ⟨"KindTables$Examples", "cellOf", "(II)I"⟩ ∈ tw := tw_1 (i := 176) rfl rfl
theorem tm1_177 : Cond.selects "KindTables$Examples" ⟨"KindTables$Examples", "cellOf", "(II)I"⟩ ⟨"KindTables$Examples", "cellOf", "(II)I"⟩ ∈ tw := tw_1 (i := 177) rfl rfl
theorem tm1_178 : Cond.code ⟨"KindTables$Examples", "cellOf", "(II)I"⟩ prog_2_method_3_code 4 (some .int) ∈ tw := tw_1 (i := 178) rfl rfl
theorem tm1_179 : Cond.methodLink "KindTablesLaw" 175 ⟨"KindTables", "count", "(I)I"⟩ ∈ tw := tw_1 (i := 179) rfl rfl
theorem tm1_180 : Cond.instanceMethod ⟨"KindTables", "count", "(I)I"⟩ ∈ tw := tw_1 (i := 180) rfl rfl
theorem tm1_181 : Cond.selects "KindTables" ⟨"KindTables", "count", "(I)I"⟩ ⟨"KindTables", "count", "(I)I"⟩ ∈ tw := tw_1 (i := 181) rfl rfl
theorem tm1_182 : Cond.code ⟨"KindTables", "count", "(I)I"⟩ prog_1_method_25_code 2 (some .int) ∈ tw := tw_1 (i := 182) rfl rfl
theorem tm1_183 : Cond.methodLink "KindTables" 119 ⟨"KindTables$Examples", "countTaught", "(I)I"⟩ ∈ tw := tw_1 (i := 183) rfl rfl
theorem tm1_184 : Cond.instanceMethod ⟨"KindTables$Examples", "countTaught", "(I)I"⟩ ∈ tw := tw_1 (i := 184) rfl rfl
theorem tm1_185 : Cond.selects "KindTables$Examples" ⟨"KindTables$Examples", "countTaught", "(I)I"⟩ ⟨"KindTables$Examples", "countTaught", "(I)I"⟩ ∈ tw := tw_1 (i := 185) rfl rfl
theorem tm1_186 : Cond.code ⟨"KindTables$Examples", "countTaught", "(I)I"⟩ prog_2_method_5_code 4 (some .int) ∈ tw := tw_1 (i := 186) rfl rfl
theorem tm1_187 : Cond.methodLink "KindTablesLaw" 86 ⟨"KindTablesLaw", "cell", "([II)I"⟩ ∈ tw := tw_1 (i := 187) rfl rfl
theorem tm1_188 : Cond.static ⟨"KindTablesLaw", "cell", "([II)I"⟩ ∈ tw := tw_1 (i := 188) rfl rfl
theorem tm1_189 : Cond.code ⟨"KindTablesLaw", "cell", "([II)I"⟩ method_2_code 2 (some .int) ∈ tw := tw_1 (i := 189) rfl rfl
theorem tm1_190 : Cond.methodLink "KindTablesLaw" 97 ⟨"KindTablesLaw", "example", "(LKindTables;I[J)I"⟩ ∈ tw := tw_1 (i := 190) rfl rfl
theorem tm1_191 : Cond.static ⟨"KindTablesLaw", "example", "(LKindTables;I[J)I"⟩ ∈ tw := tw_1 (i := 191) rfl rfl
theorem tm1_192 : Cond.codeWith ⟨"KindTablesLaw", "example", "(LKindTables;I[J)I"⟩ method_3_code 4 (some .int) [(0, 9, 12, 13), (0, 9, 15, 15)] ∈ tw := tw_1 (i := 192) rfl rfl
theorem tm1_193 : Cond.classLink "KindTablesLaw" 13 "java/lang/IndexOutOfBoundsException" ∈ tw := tw_1 (i := 193) rfl rfl
theorem tm1_194 : Cond.classLink "KindTablesLaw" 15 "java/lang/IllegalStateException" ∈ tw := tw_1 (i := 194) rfl rfl
theorem tm1_195 : Cond.methodLink "KindTablesLaw" 7 ⟨"KindTables", "example", "(I)I"⟩ ∈ tw := tw_1 (i := 195) rfl rfl
theorem tm1_196 : Cond.instanceMethod ⟨"KindTables", "example", "(I)I"⟩ ∈ tw := tw_1 (i := 196) rfl rfl
theorem tm1_197 : Cond.selects "KindTables" ⟨"KindTables", "example", "(I)I"⟩ ⟨"KindTables", "example", "(I)I"⟩ ∈ tw := tw_1 (i := 197) rfl rfl
theorem tm1_198 : Cond.code ⟨"KindTables", "example", "(I)I"⟩ prog_1_method_2_code 2 (some .int) ∈ tw := tw_1 (i := 198) rfl rfl
theorem tm1_199 : Cond.methodLink "KindTables" 57 ⟨"KindTables", "needKindOrNone", "(I)V"⟩ ∈ tw := tw_1 (i := 199) rfl rfl
theorem tm1_201 : Cond.instanceMethod ⟨"KindTables", "needKindOrNone", "(I)V"⟩ ∈ tw := tw_1 (i := 201) rfl rfl
theorem tm1_202 : Cond.code ⟨"KindTables", "needKindOrNone", "(I)V"⟩ prog_1_method_27_code 2 none ∈ tw := tw_1 (i := 202) rfl rfl
theorem tm1_203 : Cond.methodLink "KindTables" 98 ⟨"KindTables", "needKind", "(I)V"⟩ ∈ tw := tw_1 (i := 203) rfl rfl
theorem tm1_205 : Cond.instanceMethod ⟨"KindTables", "needKind", "(I)V"⟩ ∈ tw := tw_1 (i := 205) rfl rfl
theorem tm1_206 : Cond.code ⟨"KindTables", "needKind", "(I)V"⟩ prog_1_method_26_code 2 none ∈ tw := tw_1 (i := 206) rfl rfl
theorem tm1_207 : Cond.classLink "KindTables" 186 "java/lang/IndexOutOfBoundsException" ∈ tw := tw_1 (i := 207) rfl rfl
theorem tm1_208 : Cond.instantiable "java/lang/IndexOutOfBoundsException" 6 ∈ tw := tw_1 (i := 208) rfl rfl
theorem tm1_216 : Cond.selects "java/lang/IndexOutOfBoundsException" ⟨"java/lang/Throwable", "fillInStackTrace", "(I)Ljava/lang/Throwable;"⟩ ⟨"java/lang/Throwable", "fillInStackTrace", "(I)Ljava/lang/Throwable;"⟩ ∈ tw := tw_1 (i := 216) rfl rfl
theorem tm1_217 : Cond.selects "java/lang/IndexOutOfBoundsException" ⟨"java/lang/Throwable", "fillInStackTrace", "()Ljava/lang/Throwable;"⟩ ⟨"java/lang/Throwable", "fillInStackTrace", "()Ljava/lang/Throwable;"⟩ ∈ tw := tw_1 (i := 217) rfl rfl
theorem tm1_218 : Cond.lays "java/lang/IndexOutOfBoundsException" "java/lang/Throwable" "cause" "Ljava/lang/Throwable;" ∈ tw := tw_1 (i := 218) rfl rfl
theorem tm1_219 : Cond.lays "java/lang/Throwable" "java/lang/Throwable" "cause" "Ljava/lang/Throwable;" ∈ tw := tw_1 (i := 219) rfl rfl
theorem tm1_220 : Cond.lays "java/lang/IndexOutOfBoundsException" "java/lang/Throwable" "stackTrace" "[Ljava/lang/StackTraceElement;" ∈ tw := tw_1 (i := 220) rfl rfl
theorem tm1_221 : Cond.lays "java/lang/Throwable" "java/lang/Throwable" "stackTrace" "[Ljava/lang/StackTraceElement;" ∈ tw := tw_1 (i := 221) rfl rfl
theorem tm1_222 : Cond.lays "java/lang/IndexOutOfBoundsException" "java/lang/Throwable" "suppressedExceptions" "Ljava/util/List;" ∈ tw := tw_1 (i := 222) rfl rfl
theorem tm1_223 : Cond.lays "java/lang/Throwable" "java/lang/Throwable" "suppressedExceptions" "Ljava/util/List;" ∈ tw := tw_1 (i := 223) rfl rfl
theorem tm1_224 : Cond.lays "java/lang/IndexOutOfBoundsException" "java/lang/Throwable" "detailMessage" "Ljava/lang/String;" ∈ tw := tw_1 (i := 224) rfl rfl
theorem tm1_225 : Cond.lays "java/lang/Throwable" "java/lang/Throwable" "detailMessage" "Ljava/lang/String;" ∈ tw := tw_1 (i := 225) rfl rfl
theorem tm1_226 : Cond.lays "java/lang/IndexOutOfBoundsException" "java/lang/Throwable" "backtrace" "Ljava/lang/Object;" ∈ tw := tw_1 (i := 226) rfl rfl
theorem tm1_227 : Cond.lays "java/lang/Throwable" "java/lang/Throwable" "backtrace" "Ljava/lang/Object;" ∈ tw := tw_1 (i := 227) rfl rfl
theorem tm1_228 : Cond.fieldLink "java/lang/Throwable" 198 "java/lang/Throwable" "backtrace" "Ljava/lang/Object;" ∈ tw := tw_1 (i := 228) rfl rfl
theorem tm1_229 : Cond.superclass "java/lang/Throwable" "java/lang/Object" ∈ tw := tw_1 (i := 229) rfl rfl
theorem tm1_230 : Cond.instanceMethod ⟨"java/lang/Throwable", "<init>", "()V"⟩ ∈ tw := tw_1 (i := 230) rfl rfl
theorem tm1_231 : Cond.code ⟨"java/lang/Throwable", "<init>", "()V"⟩ prog_15_method_1_code 1 none ∈ tw := tw_1 (i := 231) rfl rfl
theorem tm1_232 : Cond.methodLink "java/lang/Throwable" 1 ⟨"java/lang/Object", "<init>", "()V"⟩ ∈ tw := tw_1 (i := 232) rfl rfl
theorem tm1_233 : Cond.fieldLink "java/lang/Throwable" 13 "java/lang/Throwable" "UNASSIGNED_STACK" "[Ljava/lang/StackTraceElement;" ∈ tw := tw_1 (i := 233) rfl rfl
theorem tm1_235 : Cond.fieldLink "java/lang/Throwable" 20 "java/lang/Throwable" "SUPPRESSED_SENTINEL" "Ljava/util/List;" ∈ tw := tw_1 (i := 235) rfl rfl
theorem tm1_237 : Cond.methodLink "java/lang/Throwable" 27 ⟨"java/lang/Throwable", "fillInStackTrace", "()Ljava/lang/Throwable;"⟩ ∈ tw := tw_1 (i := 237) rfl rfl
theorem tm1_238 : Cond.instanceMethod ⟨"java/lang/Throwable", "fillInStackTrace", "()Ljava/lang/Throwable;"⟩ ∈ tw := tw_1 (i := 238) rfl rfl
theorem tm1_239 : Cond.sameMethod "java/lang/Throwable" "java/lang/Throwable" "fillInStackTrace" "()Ljava/lang/Throwable;" ∈ tw := tw_1 (i := 239) rfl rfl
theorem tm2_0 : Cond.selects "java/lang/IllegalArgumentException" ⟨"java/lang/Throwable", "fillInStackTrace", "()Ljava/lang/Throwable;"⟩ ⟨"java/lang/Throwable", "fillInStackTrace", "()Ljava/lang/Throwable;"⟩ ∈ tw := tw_2 (i := 0) rfl rfl
theorem tm2_1 : Cond.selects "java/lang/IllegalStateException" ⟨"java/lang/Throwable", "fillInStackTrace", "()Ljava/lang/Throwable;"⟩ ⟨"java/lang/Throwable", "fillInStackTrace", "()Ljava/lang/Throwable;"⟩ ∈ tw := tw_2 (i := 1) rfl rfl
theorem tm2_2 : Cond.codeSync ⟨"java/lang/Throwable", "fillInStackTrace", "()Ljava/lang/Throwable;"⟩ prog_15_method_18_code 1 (some (.object "java/lang/Throwable")) ∈ tw := tw_2 (i := 2) rfl rfl
theorem tm2_3 : Cond.methodLink "java/lang/Throwable" 202 ⟨"java/lang/Throwable", "fillInStackTrace", "(I)Ljava/lang/Throwable;"⟩ ∈ tw := tw_2 (i := 3) rfl rfl
theorem tm2_5 : Cond.instanceMethod ⟨"java/lang/Throwable", "fillInStackTrace", "(I)Ljava/lang/Throwable;"⟩ ∈ tw := tw_2 (i := 5) rfl rfl
theorem tm2_6 : Cond.instantiable "java/lang/Throwable" 6 ∈ tw := tw_2 (i := 6) rfl rfl
theorem tm2_7 : Cond.native ⟨"java/lang/Throwable", "fillInStackTrace", "(I)Ljava/lang/Throwable;"⟩ ∈ tw := tw_2 (i := 7) rfl rfl
theorem tm2_9 : Cond.methodLink "KindTables" 190 ⟨"java/lang/IndexOutOfBoundsException", "<init>", "(Ljava/lang/String;)V"⟩ ∈ tw := tw_2 (i := 9) rfl rfl
theorem tm2_10 : Cond.instanceMethod ⟨"java/lang/IndexOutOfBoundsException", "<init>", "(Ljava/lang/String;)V"⟩ ∈ tw := tw_2 (i := 10) rfl rfl
theorem tm2_11 : Cond.code ⟨"java/lang/IndexOutOfBoundsException", "<init>", "(Ljava/lang/String;)V"⟩ prog_11_method_2_code 2 none ∈ tw := tw_2 (i := 11) rfl rfl
theorem tm2_12 : Cond.methodLink "java/lang/IndexOutOfBoundsException" 7 ⟨"java/lang/RuntimeException", "<init>", "(Ljava/lang/String;)V"⟩ ∈ tw := tw_2 (i := 12) rfl rfl
theorem tm2_13 : Cond.instanceMethod ⟨"java/lang/RuntimeException", "<init>", "(Ljava/lang/String;)V"⟩ ∈ tw := tw_2 (i := 13) rfl rfl
theorem tm2_14 : Cond.code ⟨"java/lang/RuntimeException", "<init>", "(Ljava/lang/String;)V"⟩ prog_13_method_2_code 2 none ∈ tw := tw_2 (i := 14) rfl rfl
theorem tm2_15 : Cond.methodLink "java/lang/RuntimeException" 7 ⟨"java/lang/Exception", "<init>", "(Ljava/lang/String;)V"⟩ ∈ tw := tw_2 (i := 15) rfl rfl
theorem tm2_16 : Cond.instanceMethod ⟨"java/lang/Exception", "<init>", "(Ljava/lang/String;)V"⟩ ∈ tw := tw_2 (i := 16) rfl rfl
theorem tm2_17 : Cond.code ⟨"java/lang/Exception", "<init>", "(Ljava/lang/String;)V"⟩ prog_8_method_2_code 2 none ∈ tw := tw_2 (i := 17) rfl rfl
theorem tm2_18 : Cond.methodLink "java/lang/Exception" 7 ⟨"java/lang/Throwable", "<init>", "(Ljava/lang/String;)V"⟩ ∈ tw := tw_2 (i := 18) rfl rfl
theorem tm2_19 : Cond.instanceMethod ⟨"java/lang/Throwable", "<init>", "(Ljava/lang/String;)V"⟩ ∈ tw := tw_2 (i := 19) rfl rfl
theorem tm2_20 : Cond.code ⟨"java/lang/Throwable", "<init>", "(Ljava/lang/String;)V"⟩ prog_15_method_2_code 2 none ∈ tw := tw_2 (i := 20) rfl rfl
theorem tm2_21 : Cond.fieldLink "java/lang/Throwable" 198 "java/lang/Throwable" "backtrace" "Ljava/lang/Object;" ∈ tw := tw_2 (i := 21) rfl rfl
theorem tm2_22 : Cond.fieldLink "java/lang/Throwable" 31 "java/lang/Throwable" "detailMessage" "Ljava/lang/String;" ∈ tw := tw_2 (i := 22) rfl rfl
theorem tm2_23 : Cond.fieldLink "java/lang/Throwable" 7 "java/lang/Throwable" "cause" "Ljava/lang/Throwable;" ∈ tw := tw_2 (i := 23) rfl rfl
theorem tm2_24 : Cond.fieldLink "java/lang/Throwable" 17 "java/lang/Throwable" "stackTrace" "[Ljava/lang/StackTraceElement;" ∈ tw := tw_2 (i := 24) rfl rfl
theorem tm2_25 : Cond.fieldLink "java/lang/Throwable" 24 "java/lang/Throwable" "suppressedExceptions" "Ljava/util/List;" ∈ tw := tw_2 (i := 25) rfl rfl
theorem tm2_26 : Cond.soleField "java/lang/Throwable" "backtrace" ∈ tw := tw_2 (i := 26) rfl rfl
theorem tm2_27 : Cond.soleField "java/lang/Throwable" "detailMessage" ∈ tw := tw_2 (i := 27) rfl rfl
theorem tm2_28 : Cond.soleField "java/lang/Throwable" "cause" ∈ tw := tw_2 (i := 28) rfl rfl
theorem tm2_29 : Cond.soleField "java/lang/Throwable" "stackTrace" ∈ tw := tw_2 (i := 29) rfl rfl
theorem tm2_30 : Cond.lays "java/lang/IndexOutOfBoundsException" "java/lang/Throwable" "depth" "I" ∈ tw := tw_2 (i := 30) rfl rfl
theorem tm2_31 : Cond.soleField "java/lang/Throwable" "depth" ∈ tw := tw_2 (i := 31) rfl rfl
theorem tm2_32 : Cond.soleField "java/lang/Throwable" "suppressedExceptions" ∈ tw := tw_2 (i := 32) rfl rfl
theorem tm2_33 : Cond.superclass "java/lang/IndexOutOfBoundsException" "java/lang/RuntimeException" ∈ tw := tw_2 (i := 33) rfl rfl
theorem tm2_34 : Cond.arrayClass .byte ∈ tw := tw_2 (i := 34) rfl rfl
theorem tm2_35 : Cond.classLink "KindTables" 63 "java/lang/IllegalStateException" ∈ tw := tw_2 (i := 35) rfl rfl
theorem tm2_36 : Cond.instantiable "java/lang/IllegalStateException" 6 ∈ tw := tw_2 (i := 36) rfl rfl
theorem tm2_38 : Cond.selects "java/lang/IllegalStateException" ⟨"java/lang/Throwable", "fillInStackTrace", "(I)Ljava/lang/Throwable;"⟩ ⟨"java/lang/Throwable", "fillInStackTrace", "(I)Ljava/lang/Throwable;"⟩ ∈ tw := tw_2 (i := 38) rfl rfl
theorem tm2_39 : Cond.lays "java/lang/IllegalStateException" "java/lang/Throwable" "cause" "Ljava/lang/Throwable;" ∈ tw := tw_2 (i := 39) rfl rfl
theorem tm2_40 : Cond.lays "java/lang/IllegalStateException" "java/lang/Throwable" "stackTrace" "[Ljava/lang/StackTraceElement;" ∈ tw := tw_2 (i := 40) rfl rfl
theorem tm2_41 : Cond.lays "java/lang/IllegalStateException" "java/lang/Throwable" "suppressedExceptions" "Ljava/util/List;" ∈ tw := tw_2 (i := 41) rfl rfl
theorem tm2_42 : Cond.lays "java/lang/IllegalStateException" "java/lang/Throwable" "detailMessage" "Ljava/lang/String;" ∈ tw := tw_2 (i := 42) rfl rfl
theorem tm2_43 : Cond.lays "java/lang/IllegalStateException" "java/lang/Throwable" "backtrace" "Ljava/lang/Object;" ∈ tw := tw_2 (i := 43) rfl rfl
theorem tm2_45 : Cond.methodLink "KindTables" 67 ⟨"java/lang/IllegalStateException", "<init>", "(Ljava/lang/String;)V"⟩ ∈ tw := tw_2 (i := 45) rfl rfl
theorem tm2_46 : Cond.instanceMethod ⟨"java/lang/IllegalStateException", "<init>", "(Ljava/lang/String;)V"⟩ ∈ tw := tw_2 (i := 46) rfl rfl
theorem tm2_47 : Cond.code ⟨"java/lang/IllegalStateException", "<init>", "(Ljava/lang/String;)V"⟩ prog_10_method_2_code 2 none ∈ tw := tw_2 (i := 47) rfl rfl
theorem tm2_48 : Cond.methodLink "java/lang/IllegalStateException" 7 ⟨"java/lang/RuntimeException", "<init>", "(Ljava/lang/String;)V"⟩ ∈ tw := tw_2 (i := 48) rfl rfl
theorem tm2_49 : Cond.lays "java/lang/IllegalStateException" "java/lang/Throwable" "depth" "I" ∈ tw := tw_2 (i := 49) rfl rfl
theorem tm2_50 : Cond.superclass "java/lang/IllegalStateException" "java/lang/RuntimeException" ∈ tw := tw_2 (i := 50) rfl rfl
theorem tm2_51 : Cond.methodLink "KindTables" 70 ⟨"KindTables$Examples", "add", "(I)I"⟩ ∈ tw := tw_2 (i := 51) rfl rfl
theorem tm2_52 : Cond.instanceMethod ⟨"KindTables$Examples", "add", "(I)I"⟩ ∈ tw := tw_2 (i := 52) rfl rfl
theorem tm2_53 : Cond.selects "KindTables$Examples" ⟨"KindTables$Examples", "add", "(I)I"⟩ ⟨"KindTables$Examples", "add", "(I)I"⟩ ∈ tw := tw_2 (i := 53) rfl rfl
theorem tm2_54 : Cond.code ⟨"KindTables$Examples", "add", "(I)I"⟩ prog_2_method_2_code 2 (some .int) ∈ tw := tw_2 (i := 54) rfl rfl
theorem tm2_55 : Cond.methodLink "KindTablesLaw" 105 ⟨"KindTablesLaw", "value", "(LKindTables;III[J)I"⟩ ∈ tw := tw_2 (i := 55) rfl rfl
theorem tm2_56 : Cond.static ⟨"KindTablesLaw", "value", "(LKindTables;III[J)I"⟩ ∈ tw := tw_2 (i := 56) rfl rfl
theorem tm2_57 : Cond.codeWith ⟨"KindTablesLaw", "value", "(LKindTables;III[J)I"⟩ method_4_code 6 (some .int) [(0, 19, 22, 13), (0, 19, 26, 21)] ∈ tw := tw_2 (i := 57) rfl rfl
theorem tm2_58 : Cond.classLink "KindTablesLaw" 21 "java/lang/IllegalArgumentException" ∈ tw := tw_2 (i := 58) rfl rfl
theorem tm2_59 : Cond.methodLink "KindTablesLaw" 17 ⟨"KindTables", "value", "(III)Z"⟩ ∈ tw := tw_2 (i := 59) rfl rfl
theorem tm2_60 : Cond.instanceMethod ⟨"KindTables", "value", "(III)Z"⟩ ∈ tw := tw_2 (i := 60) rfl rfl
theorem tm2_61 : Cond.selects "KindTables" ⟨"KindTables", "value", "(III)Z"⟩ ⟨"KindTables", "value", "(III)Z"⟩ ∈ tw := tw_2 (i := 61) rfl rfl
theorem tm2_62 : Cond.code ⟨"KindTables", "value", "(III)Z"⟩ prog_1_method_3_code 5 (some .boolean) ∈ tw := tw_2 (i := 62) rfl rfl
theorem tm2_63 : Cond.methodLink "KindTables" 74 ⟨"KindTables", "needExample", "(I)V"⟩ ∈ tw := tw_2 (i := 63) rfl rfl
theorem tm2_65 : Cond.instanceMethod ⟨"KindTables", "needExample", "(I)V"⟩ ∈ tw := tw_2 (i := 65) rfl rfl
theorem tm2_66 : Cond.code ⟨"KindTables", "needExample", "(I)V"⟩ prog_1_method_29_code 2 none ∈ tw := tw_2 (i := 66) rfl rfl
theorem tm2_68 : Cond.methodLink "KindTables" 77 ⟨"KindTables", "needFeature", "(I)V"⟩ ∈ tw := tw_2 (i := 68) rfl rfl
theorem tm2_70 : Cond.instanceMethod ⟨"KindTables", "needFeature", "(I)V"⟩ ∈ tw := tw_2 (i := 70) rfl rfl
theorem tm2_71 : Cond.code ⟨"KindTables", "needFeature", "(I)V"⟩ prog_1_method_28_code 2 none ∈ tw := tw_2 (i := 71) rfl rfl
theorem tm2_73 : Cond.methodLink "KindTables" 80 ⟨"KindTables", "needWithin", "(III)V"⟩ ∈ tw := tw_2 (i := 73) rfl rfl
theorem tm2_74 : Cond.static ⟨"KindTables", "needWithin", "(III)V"⟩ ∈ tw := tw_2 (i := 74) rfl rfl
theorem tm2_75 : Cond.code ⟨"KindTables", "needWithin", "(III)V"⟩ prog_1_method_32_code 3 none ∈ tw := tw_2 (i := 75) rfl rfl
theorem tm2_76 : Cond.classLink "KindTables" 139 "java/lang/IllegalArgumentException" ∈ tw := tw_2 (i := 76) rfl rfl
theorem tm2_77 : Cond.instantiable "java/lang/IllegalArgumentException" 6 ∈ tw := tw_2 (i := 77) rfl rfl
theorem tm2_79 : Cond.selects "java/lang/IllegalArgumentException" ⟨"java/lang/Throwable", "fillInStackTrace", "(I)Ljava/lang/Throwable;"⟩ ⟨"java/lang/Throwable", "fillInStackTrace", "(I)Ljava/lang/Throwable;"⟩ ∈ tw := tw_2 (i := 79) rfl rfl
theorem tm2_80 : Cond.lays "java/lang/IllegalArgumentException" "java/lang/Throwable" "cause" "Ljava/lang/Throwable;" ∈ tw := tw_2 (i := 80) rfl rfl
theorem tm2_81 : Cond.lays "java/lang/IllegalArgumentException" "java/lang/Throwable" "stackTrace" "[Ljava/lang/StackTraceElement;" ∈ tw := tw_2 (i := 81) rfl rfl
theorem tm2_82 : Cond.lays "java/lang/IllegalArgumentException" "java/lang/Throwable" "suppressedExceptions" "Ljava/util/List;" ∈ tw := tw_2 (i := 82) rfl rfl
theorem tm2_83 : Cond.lays "java/lang/IllegalArgumentException" "java/lang/Throwable" "detailMessage" "Ljava/lang/String;" ∈ tw := tw_2 (i := 83) rfl rfl
theorem tm2_84 : Cond.lays "java/lang/IllegalArgumentException" "java/lang/Throwable" "backtrace" "Ljava/lang/Object;" ∈ tw := tw_2 (i := 84) rfl rfl
theorem tm2_86 : Cond.methodLink "KindTables" 143 ⟨"java/lang/IllegalArgumentException", "<init>", "(Ljava/lang/String;)V"⟩ ∈ tw := tw_2 (i := 86) rfl rfl
theorem tm2_87 : Cond.instanceMethod ⟨"java/lang/IllegalArgumentException", "<init>", "(Ljava/lang/String;)V"⟩ ∈ tw := tw_2 (i := 87) rfl rfl
theorem tm2_88 : Cond.code ⟨"java/lang/IllegalArgumentException", "<init>", "(Ljava/lang/String;)V"⟩ prog_9_method_2_code 2 none ∈ tw := tw_2 (i := 88) rfl rfl
theorem tm2_89 : Cond.methodLink "java/lang/IllegalArgumentException" 7 ⟨"java/lang/RuntimeException", "<init>", "(Ljava/lang/String;)V"⟩ ∈ tw := tw_2 (i := 89) rfl rfl
theorem tm2_90 : Cond.lays "java/lang/IllegalArgumentException" "java/lang/Throwable" "depth" "I" ∈ tw := tw_2 (i := 90) rfl rfl
theorem tm2_91 : Cond.superclass "java/lang/IllegalArgumentException" "java/lang/RuntimeException" ∈ tw := tw_2 (i := 91) rfl rfl
theorem tm2_92 : Cond.methodLink "KindTablesLaw" 109 ⟨"KindTablesLaw", "teach", "(LKindTables;II[J)I"⟩ ∈ tw := tw_2 (i := 92) rfl rfl
theorem tm2_93 : Cond.static ⟨"KindTablesLaw", "teach", "(LKindTables;II[J)I"⟩ ∈ tw := tw_2 (i := 93) rfl rfl
theorem tm2_94 : Cond.codeWith ⟨"KindTablesLaw", "teach", "(LKindTables;II[J)I"⟩ method_5_code 5 (some .int) [(0, 10, 13, 13)] ∈ tw := tw_2 (i := 94) rfl rfl
theorem tm2_95 : Cond.methodLink "KindTablesLaw" 23 ⟨"KindTables", "teach", "(II)I"⟩ ∈ tw := tw_2 (i := 95) rfl rfl
theorem tm2_96 : Cond.instanceMethod ⟨"KindTables", "teach", "(II)I"⟩ ∈ tw := tw_2 (i := 96) rfl rfl
theorem tm2_97 : Cond.selects "KindTables" ⟨"KindTables", "teach", "(II)I"⟩ ⟨"KindTables", "teach", "(II)I"⟩ ∈ tw := tw_2 (i := 97) rfl rfl
theorem tm2_98 : Cond.code ⟨"KindTables", "teach", "(II)I"⟩ prog_1_method_4_code 4 (some .int) ∈ tw := tw_2 (i := 98) rfl rfl
theorem tm2_99 : Cond.methodLink "KindTablesLaw" 113 ⟨"KindTablesLaw", "width", "(LKindTables;II[J)I"⟩ ∈ tw := tw_2 (i := 99) rfl rfl
theorem tm2_100 : Cond.static ⟨"KindTablesLaw", "width", "(LKindTables;II[J)I"⟩ ∈ tw := tw_2 (i := 100) rfl rfl
theorem tm2_101 : Cond.codeWith ⟨"KindTablesLaw", "width", "(LKindTables;II[J)I"⟩ method_6_code 5 (some .int) [(0, 10, 13, 13), (0, 10, 17, 21)] ∈ tw := tw_2 (i := 101) rfl rfl
theorem tm2_102 : Cond.methodLink "KindTablesLaw" 27 ⟨"KindTables", "width", "(II)I"⟩ ∈ tw := tw_2 (i := 102) rfl rfl
theorem tm2_103 : Cond.instanceMethod ⟨"KindTables", "width", "(II)I"⟩ ∈ tw := tw_2 (i := 103) rfl rfl
theorem tm2_104 : Cond.selects "KindTables" ⟨"KindTables", "width", "(II)I"⟩ ⟨"KindTables", "width", "(II)I"⟩ ∈ tw := tw_2 (i := 104) rfl rfl
theorem tm2_105 : Cond.code ⟨"KindTables", "width", "(II)I"⟩ prog_1_method_5_code 4 (some .int) ∈ tw := tw_2 (i := 105) rfl rfl
theorem tm2_106 : Cond.methodLink "KindTablesLaw" 116 ⟨"KindTablesLaw", "cell", "(LKindTables;II[J)I"⟩ ∈ tw := tw_2 (i := 106) rfl rfl
theorem tm2_107 : Cond.static ⟨"KindTablesLaw", "cell", "(LKindTables;II[J)I"⟩ ∈ tw := tw_2 (i := 107) rfl rfl
theorem tm2_108 : Cond.codeWith ⟨"KindTablesLaw", "cell", "(LKindTables;II[J)I"⟩ method_7_code 5 (some .int) [(0, 10, 13, 13)] ∈ tw := tw_2 (i := 108) rfl rfl
theorem tm2_109 : Cond.methodLink "KindTablesLaw" 30 ⟨"KindTables", "cell", "(II)I"⟩ ∈ tw := tw_2 (i := 109) rfl rfl
theorem tm2_110 : Cond.instanceMethod ⟨"KindTables", "cell", "(II)I"⟩ ∈ tw := tw_2 (i := 110) rfl rfl
theorem tm2_111 : Cond.selects "KindTables" ⟨"KindTables", "cell", "(II)I"⟩ ⟨"KindTables", "cell", "(II)I"⟩ ∈ tw := tw_2 (i := 111) rfl rfl
theorem tm2_112 : Cond.code ⟨"KindTables", "cell", "(II)I"⟩ prog_1_method_6_code 3 (some .int) ∈ tw := tw_2 (i := 112) rfl rfl
theorem tm2_113 : Cond.methodLink "KindTables" 95 ⟨"KindTables$Examples", "cellOf", "(II)I"⟩ ∈ tw := tw_2 (i := 113) rfl rfl
theorem tm2_114 : Cond.methodLink "KindTablesLaw" 119 ⟨"KindTablesLaw", "votes", "(LKindTables;II[J)I"⟩ ∈ tw := tw_2 (i := 114) rfl rfl
theorem tm2_115 : Cond.static ⟨"KindTablesLaw", "votes", "(LKindTables;II[J)I"⟩ ∈ tw := tw_2 (i := 115) rfl rfl
theorem tm2_116 : Cond.codeWith ⟨"KindTablesLaw", "votes", "(LKindTables;II[J)I"⟩ method_8_code 5 (some .int) [(0, 10, 13, 13)] ∈ tw := tw_2 (i := 116) rfl rfl
theorem tm2_117 : Cond.methodLink "KindTablesLaw" 33 ⟨"KindTables", "votes", "(II)I"⟩ ∈ tw := tw_2 (i := 117) rfl rfl
theorem tm2_118 : Cond.instanceMethod ⟨"KindTables", "votes", "(II)I"⟩ ∈ tw := tw_2 (i := 118) rfl rfl
theorem tm2_119 : Cond.selects "KindTables" ⟨"KindTables", "votes", "(II)I"⟩ ⟨"KindTables", "votes", "(II)I"⟩ ∈ tw := tw_2 (i := 119) rfl rfl
theorem tm2_120 : Cond.code ⟨"KindTables", "votes", "(II)I"⟩ prog_1_method_7_code 3 (some .int) ∈ tw := tw_2 (i := 120) rfl rfl
theorem tm2_121 : Cond.methodLink "KindTables" 101 ⟨"KindTables$Teller", "votesFor", "(II)I"⟩ ∈ tw := tw_2 (i := 121) rfl rfl
theorem tm2_122 : Cond.instanceMethod ⟨"KindTables$Teller", "votesFor", "(II)I"⟩ ∈ tw := tw_2 (i := 122) rfl rfl
theorem tm2_123 : Cond.selects "KindTables$Teller" ⟨"KindTables$Teller", "votesFor", "(II)I"⟩ ⟨"KindTables$Teller", "votesFor", "(II)I"⟩ ∈ tw := tw_2 (i := 123) rfl rfl
theorem tm2_124 : Cond.code ⟨"KindTables$Teller", "votesFor", "(II)I"⟩ prog_5_method_4_code 3 (some .int) ∈ tw := tw_2 (i := 124) rfl rfl
theorem tm2_125 : Cond.methodLink "KindTablesLaw" 122 ⟨"KindTablesLaw", "tell", "(LKindTables;I[J)I"⟩ ∈ tw := tw_2 (i := 125) rfl rfl
theorem tm2_126 : Cond.static ⟨"KindTablesLaw", "tell", "(LKindTables;I[J)I"⟩ ∈ tw := tw_2 (i := 126) rfl rfl
theorem tm2_127 : Cond.codeWith ⟨"KindTablesLaw", "tell", "(LKindTables;I[J)I"⟩ method_9_code 4 (some .int) [(0, 9, 12, 13)] ∈ tw := tw_2 (i := 127) rfl rfl
theorem tm2_128 : Cond.methodLink "KindTablesLaw" 36 ⟨"KindTables", "tell", "(I)I"⟩ ∈ tw := tw_2 (i := 128) rfl rfl
theorem tm2_129 : Cond.instanceMethod ⟨"KindTables", "tell", "(I)I"⟩ ∈ tw := tw_2 (i := 129) rfl rfl
theorem tm2_130 : Cond.selects "KindTables" ⟨"KindTables", "tell", "(I)I"⟩ ⟨"KindTables", "tell", "(I)I"⟩ ∈ tw := tw_2 (i := 130) rfl rfl
theorem tm2_131 : Cond.code ⟨"KindTables", "tell", "(I)I"⟩ prog_1_method_8_code 2 (some .int) ∈ tw := tw_2 (i := 131) rfl rfl
theorem tm2_132 : Cond.methodLink "KindTables" 104 ⟨"KindTables$Teller", "told", "(I)I"⟩ ∈ tw := tw_2 (i := 132) rfl rfl
theorem tm2_133 : Cond.methodLink "KindTablesLaw" 125 ⟨"KindTablesLaw", "bound", "(LKindTables;I[J)I"⟩ ∈ tw := tw_2 (i := 133) rfl rfl
theorem tm2_134 : Cond.static ⟨"KindTablesLaw", "bound", "(LKindTables;I[J)I"⟩ ∈ tw := tw_2 (i := 134) rfl rfl
theorem tm2_135 : Cond.codeWith ⟨"KindTablesLaw", "bound", "(LKindTables;I[J)I"⟩ method_10_code 4 (some .int) [(0, 9, 12, 21)] ∈ tw := tw_2 (i := 135) rfl rfl
theorem tm2_136 : Cond.methodLink "KindTablesLaw" 39 ⟨"KindTables", "bound", "(I)I"⟩ ∈ tw := tw_2 (i := 136) rfl rfl
theorem tm2_137 : Cond.instanceMethod ⟨"KindTables", "bound", "(I)I"⟩ ∈ tw := tw_2 (i := 137) rfl rfl
theorem tm2_138 : Cond.selects "KindTables" ⟨"KindTables", "bound", "(I)I"⟩ ⟨"KindTables", "bound", "(I)I"⟩ ∈ tw := tw_2 (i := 138) rfl rfl
theorem tm2_139 : Cond.code ⟨"KindTables", "bound", "(I)I"⟩ prog_1_method_9_code 3 (some .int) ∈ tw := tw_2 (i := 139) rfl rfl
theorem tm2_140 : Cond.methodLink "KindTablesLaw" 128 ⟨"KindTablesLaw", "prefer", "(LKindTables;I[J)I"⟩ ∈ tw := tw_2 (i := 140) rfl rfl
theorem tm2_141 : Cond.static ⟨"KindTablesLaw", "prefer", "(LKindTables;I[J)I"⟩ ∈ tw := tw_2 (i := 141) rfl rfl
theorem tm2_142 : Cond.codeWith ⟨"KindTablesLaw", "prefer", "(LKindTables;I[J)I"⟩ method_11_code 4 (some .int) [(0, 9, 12, 13)] ∈ tw := tw_2 (i := 142) rfl rfl
theorem tm2_143 : Cond.methodLink "KindTablesLaw" 42 ⟨"KindTables", "prefer", "(I)I"⟩ ∈ tw := tw_2 (i := 143) rfl rfl
theorem tm2_144 : Cond.instanceMethod ⟨"KindTables", "prefer", "(I)I"⟩ ∈ tw := tw_2 (i := 144) rfl rfl
theorem tm2_145 : Cond.selects "KindTables" ⟨"KindTables", "prefer", "(I)I"⟩ ⟨"KindTables", "prefer", "(I)I"⟩ ∈ tw := tw_2 (i := 145) rfl rfl
theorem tm2_146 : Cond.code ⟨"KindTables", "prefer", "(I)I"⟩ prog_1_method_10_code 2 (some .int) ∈ tw := tw_2 (i := 146) rfl rfl
theorem tm2_147 : Cond.methodLink "KindTables" 110 ⟨"KindTables$Teller", "bringToFront", "(I)I"⟩ ∈ tw := tw_2 (i := 147) rfl rfl
theorem tm2_148 : Cond.instanceMethod ⟨"KindTables$Teller", "bringToFront", "(I)I"⟩ ∈ tw := tw_2 (i := 148) rfl rfl
theorem tm2_149 : Cond.selects "KindTables$Teller" ⟨"KindTables$Teller", "bringToFront", "(I)I"⟩ ⟨"KindTables$Teller", "bringToFront", "(I)I"⟩ ∈ tw := tw_2 (i := 149) rfl rfl
theorem tm2_150 : Cond.code ⟨"KindTables$Teller", "bringToFront", "(I)I"⟩ prog_5_method_2_code 4 (some .int) ∈ tw := tw_2 (i := 150) rfl rfl
theorem tm2_151 : Cond.methodLink "KindTables$Teller" 37 ⟨"KindTables$Teller", "placeOf", "(I)I"⟩ ∈ tw := tw_2 (i := 151) rfl rfl
theorem tm2_153 : Cond.instanceMethod ⟨"KindTables$Teller", "placeOf", "(I)I"⟩ ∈ tw := tw_2 (i := 153) rfl rfl
theorem tm2_154 : Cond.code ⟨"KindTables$Teller", "placeOf", "(I)I"⟩ prog_5_method_3_code 3 (some .int) ∈ tw := tw_2 (i := 154) rfl rfl
theorem tm2_155 : Cond.methodLink "KindTablesLaw" 131 ⟨"KindTablesLaw", "wrong", "(LKindTables;III[J)I"⟩ ∈ tw := tw_2 (i := 155) rfl rfl
theorem tm2_156 : Cond.static ⟨"KindTablesLaw", "wrong", "(LKindTables;III[J)I"⟩ ∈ tw := tw_2 (i := 156) rfl rfl
theorem tm2_157 : Cond.codeWith ⟨"KindTablesLaw", "wrong", "(LKindTables;III[J)I"⟩ method_12_code 6 (some .int) [(0, 12, 15, 13)] ∈ tw := tw_2 (i := 157) rfl rfl
theorem tm2_158 : Cond.methodLink "KindTablesLaw" 45 ⟨"KindTables", "wrong", "(III)I"⟩ ∈ tw := tw_2 (i := 158) rfl rfl
theorem tm2_159 : Cond.instanceMethod ⟨"KindTables", "wrong", "(III)I"⟩ ∈ tw := tw_2 (i := 159) rfl rfl
theorem tm2_160 : Cond.selects "KindTables" ⟨"KindTables", "wrong", "(III)I"⟩ ⟨"KindTables", "wrong", "(III)I"⟩ ∈ tw := tw_2 (i := 160) rfl rfl
theorem tm2_161 : Cond.code ⟨"KindTables", "wrong", "(III)I"⟩ prog_1_method_11_code 4 (some .int) ∈ tw := tw_2 (i := 161) rfl rfl
theorem tm2_162 : Cond.methodLink "KindTables" 113 ⟨"KindTables", "needPart", "(I)V"⟩ ∈ tw := tw_2 (i := 162) rfl rfl
theorem tm2_163 : Cond.static ⟨"KindTables", "needPart", "(I)V"⟩ ∈ tw := tw_2 (i := 163) rfl rfl
theorem tm2_164 : Cond.code ⟨"KindTables", "needPart", "(I)V"⟩ prog_1_method_31_code 1 none ∈ tw := tw_2 (i := 164) rfl rfl
theorem tm2_166 : Cond.methodLink "KindTables" 116 ⟨"KindTables$Teller", "countTold", "(II)I"⟩ ∈ tw := tw_2 (i := 166) rfl rfl
theorem tm2_167 : Cond.instanceMethod ⟨"KindTables$Teller", "countTold", "(II)I"⟩ ∈ tw := tw_2 (i := 167) rfl rfl
theorem tm2_168 : Cond.selects "KindTables$Teller" ⟨"KindTables$Teller", "countTold", "(II)I"⟩ ⟨"KindTables$Teller", "countTold", "(II)I"⟩ ∈ tw := tw_2 (i := 168) rfl rfl
theorem tm2_169 : Cond.code ⟨"KindTables$Teller", "countTold", "(II)I"⟩ prog_5_method_8_code 5 (some .int) ∈ tw := tw_2 (i := 169) rfl rfl
theorem tm2_170 : Cond.methodLink "KindTables" 122 ⟨"KindTables", "partOf", "(JJI)J"⟩ ∈ tw := tw_2 (i := 170) rfl rfl
theorem tm2_171 : Cond.static ⟨"KindTables", "partOf", "(JJI)J"⟩ ∈ tw := tw_2 (i := 171) rfl rfl
theorem tm2_172 : Cond.code ⟨"KindTables", "partOf", "(JJI)J"⟩ prog_1_method_34_code 7 (some .long) ∈ tw := tw_2 (i := 172) rfl rfl
theorem tm2_173 : Cond.methodLink "KindTables" 201 ⟨"KindTables", "commonDivisor", "(JJ)J"⟩ ∈ tw := tw_2 (i := 173) rfl rfl
theorem tm2_174 : Cond.static ⟨"KindTables", "commonDivisor", "(JJ)J"⟩ ∈ tw := tw_2 (i := 174) rfl rfl
theorem tm2_175 : Cond.code ⟨"KindTables", "commonDivisor", "(JJ)J"⟩ prog_1_method_35_code 11 (some .long) ∈ tw := tw_2 (i := 175) rfl rfl
theorem tm2_176 : Cond.methodLink "KindTablesLaw" 134 ⟨"KindTablesLaw", "right", "(LKindTables;I[J)I"⟩ ∈ tw := tw_2 (i := 176) rfl rfl
theorem tm2_177 : Cond.static ⟨"KindTablesLaw", "right", "(LKindTables;I[J)I"⟩ ∈ tw := tw_2 (i := 177) rfl rfl
theorem tm2_178 : Cond.codeWith ⟨"KindTablesLaw", "right", "(LKindTables;I[J)I"⟩ method_13_code 4 (some .int) [(0, 9, 12, 13)] ∈ tw := tw_2 (i := 178) rfl rfl
theorem tm2_179 : Cond.methodLink "KindTablesLaw" 49 ⟨"KindTables", "right", "(I)I"⟩ ∈ tw := tw_2 (i := 179) rfl rfl
theorem tm2_180 : Cond.instanceMethod ⟨"KindTables", "right", "(I)I"⟩ ∈ tw := tw_2 (i := 180) rfl rfl
theorem tm2_181 : Cond.selects "KindTables" ⟨"KindTables", "right", "(I)I"⟩ ⟨"KindTables", "right", "(I)I"⟩ ∈ tw := tw_2 (i := 181) rfl rfl
theorem tm2_182 : Cond.code ⟨"KindTables", "right", "(I)I"⟩ prog_1_method_12_code 2 (some .int) ∈ tw := tw_2 (i := 182) rfl rfl
theorem tm2_183 : Cond.methodLink "KindTables" 126 ⟨"KindTables$Teller", "rightBy", "(I)I"⟩ ∈ tw := tw_2 (i := 183) rfl rfl
theorem tm2_184 : Cond.instanceMethod ⟨"KindTables$Teller", "rightBy", "(I)I"⟩ ∈ tw := tw_2 (i := 184) rfl rfl
theorem tm2_185 : Cond.selects "KindTables$Teller" ⟨"KindTables$Teller", "rightBy", "(I)I"⟩ ⟨"KindTables$Teller", "rightBy", "(I)I"⟩ ∈ tw := tw_2 (i := 185) rfl rfl
theorem tm2_186 : Cond.code ⟨"KindTables$Teller", "rightBy", "(I)I"⟩ prog_5_method_10_code 5 (some .int) ∈ tw := tw_2 (i := 186) rfl rfl
theorem tm2_187 : Cond.methodLink "KindTablesLaw" 137 ⟨"KindTablesLaw", "best", "(LKindTables;I[J)I"⟩ ∈ tw := tw_2 (i := 187) rfl rfl
theorem tm2_188 : Cond.static ⟨"KindTablesLaw", "best", "(LKindTables;I[J)I"⟩ ∈ tw := tw_2 (i := 188) rfl rfl
theorem tm2_189 : Cond.codeWith ⟨"KindTablesLaw", "best", "(LKindTables;I[J)I"⟩ method_14_code 4 (some .int) [(0, 9, 12, 13)] ∈ tw := tw_2 (i := 189) rfl rfl
theorem tm2_190 : Cond.methodLink "KindTablesLaw" 52 ⟨"KindTables", "best", "(I)I"⟩ ∈ tw := tw_2 (i := 190) rfl rfl
theorem tm2_191 : Cond.instanceMethod ⟨"KindTables", "best", "(I)I"⟩ ∈ tw := tw_2 (i := 191) rfl rfl
theorem tm2_192 : Cond.selects "KindTables" ⟨"KindTables", "best", "(I)I"⟩ ⟨"KindTables", "best", "(I)I"⟩ ∈ tw := tw_2 (i := 192) rfl rfl
theorem tm2_193 : Cond.code ⟨"KindTables", "best", "(I)I"⟩ prog_1_method_13_code 2 (some .int) ∈ tw := tw_2 (i := 193) rfl rfl
theorem tm2_194 : Cond.methodLink "KindTables" 129 ⟨"KindTables$Teller", "featureAt", "(I)I"⟩ ∈ tw := tw_2 (i := 194) rfl rfl
theorem tm2_195 : Cond.instanceMethod ⟨"KindTables$Teller", "featureAt", "(I)I"⟩ ∈ tw := tw_2 (i := 195) rfl rfl
theorem tm2_196 : Cond.selects "KindTables$Teller" ⟨"KindTables$Teller", "featureAt", "(I)I"⟩ ⟨"KindTables$Teller", "featureAt", "(I)I"⟩ ∈ tw := tw_2 (i := 196) rfl rfl
theorem tm2_197 : Cond.code ⟨"KindTables$Teller", "featureAt", "(I)I"⟩ prog_5_method_11_code 3 (some .int) ∈ tw := tw_2 (i := 197) rfl rfl
theorem tm2_198 : Cond.methodLink "KindTables$Teller" 62 ⟨"KindTables$Teller", "rightBy", "(I)I"⟩ ∈ tw := tw_2 (i := 198) rfl rfl
theorem tm2_199 : Cond.methodLink "KindTables$Teller" 65 ⟨"KindTables$Teller", "countBefore", "(I)I"⟩ ∈ tw := tw_2 (i := 199) rfl rfl
theorem tm2_201 : Cond.instanceMethod ⟨"KindTables$Teller", "countBefore", "(I)I"⟩ ∈ tw := tw_2 (i := 201) rfl rfl
theorem tm2_202 : Cond.code ⟨"KindTables$Teller", "countBefore", "(I)I"⟩ prog_5_method_12_code 5 (some .int) ∈ tw := tw_2 (i := 202) rfl rfl
theorem tm2_203 : Cond.methodLink "KindTablesLaw" 144 ⟨"KindTablesLaw", "mixed", "(LKindTables;II[J)I"⟩ ∈ tw := tw_2 (i := 203) rfl rfl
theorem tm2_204 : Cond.static ⟨"KindTablesLaw", "mixed", "(LKindTables;II[J)I"⟩ ∈ tw := tw_2 (i := 204) rfl rfl
theorem tm2_205 : Cond.codeWith ⟨"KindTablesLaw", "mixed", "(LKindTables;II[J)I"⟩ method_15_code 5 (some .int) [(0, 10, 13, 13)] ∈ tw := tw_2 (i := 205) rfl rfl
theorem tm2_206 : Cond.methodLink "KindTablesLaw" 55 ⟨"KindTables", "mixed", "(II)I"⟩ ∈ tw := tw_2 (i := 206) rfl rfl
theorem tm2_207 : Cond.instanceMethod ⟨"KindTables", "mixed", "(II)I"⟩ ∈ tw := tw_2 (i := 207) rfl rfl
theorem tm2_208 : Cond.selects "KindTables" ⟨"KindTables", "mixed", "(II)I"⟩ ⟨"KindTables", "mixed", "(II)I"⟩ ∈ tw := tw_2 (i := 208) rfl rfl
theorem tm2_209 : Cond.code ⟨"KindTables", "mixed", "(II)I"⟩ prog_1_method_15_code 4 (some .int) ∈ tw := tw_2 (i := 209) rfl rfl
theorem tm2_210 : Cond.methodLink "KindTablesLaw" 147 ⟨"KindTablesLaw", "groups", "(LKindTables;I[J)I"⟩ ∈ tw := tw_2 (i := 210) rfl rfl
theorem tm2_211 : Cond.static ⟨"KindTablesLaw", "groups", "(LKindTables;I[J)I"⟩ ∈ tw := tw_2 (i := 211) rfl rfl
theorem tm2_212 : Cond.codeWith ⟨"KindTablesLaw", "groups", "(LKindTables;I[J)I"⟩ method_16_code 4 (some .int) [(0, 9, 12, 21)] ∈ tw := tw_2 (i := 212) rfl rfl
theorem tm2_213 : Cond.methodLink "KindTablesLaw" 58 ⟨"KindTables", "groups", "(I)I"⟩ ∈ tw := tw_2 (i := 213) rfl rfl
theorem tm2_214 : Cond.instanceMethod ⟨"KindTables", "groups", "(I)I"⟩ ∈ tw := tw_2 (i := 214) rfl rfl
theorem tm2_215 : Cond.selects "KindTables" ⟨"KindTables", "groups", "(I)I"⟩ ⟨"KindTables", "groups", "(I)I"⟩ ∈ tw := tw_2 (i := 215) rfl rfl
theorem tm2_216 : Cond.code ⟨"KindTables", "groups", "(I)I"⟩ prog_1_method_16_code 2 (some .int) ∈ tw := tw_2 (i := 216) rfl rfl
theorem tm2_217 : Cond.methodLink "KindTables" 136 ⟨"KindTables$Examples", "countGroups", "(I)I"⟩ ∈ tw := tw_2 (i := 217) rfl rfl
theorem tm2_218 : Cond.instanceMethod ⟨"KindTables$Examples", "countGroups", "(I)I"⟩ ∈ tw := tw_2 (i := 218) rfl rfl
theorem tm2_219 : Cond.selects "KindTables$Examples" ⟨"KindTables$Examples", "countGroups", "(I)I"⟩ ⟨"KindTables$Examples", "countGroups", "(I)I"⟩ ∈ tw := tw_2 (i := 219) rfl rfl
theorem tm2_220 : Cond.code ⟨"KindTables$Examples", "countGroups", "(I)I"⟩ prog_2_method_10_code 5 (some .int) ∈ tw := tw_2 (i := 220) rfl rfl
theorem tm2_221 : Cond.methodLink "KindTables$Examples" 51 ⟨"KindTables$Examples", "sameCells", "(IIII)I"⟩ ∈ tw := tw_2 (i := 221) rfl rfl
theorem tm2_222 : Cond.methodLink "KindTables$Examples" 55 ⟨"KindTables$Examples", "joinGroups", "(II)V"⟩ ∈ tw := tw_2 (i := 222) rfl rfl
theorem tm2_224 : Cond.instanceMethod ⟨"KindTables$Examples", "joinGroups", "(II)V"⟩ ∈ tw := tw_2 (i := 224) rfl rfl
theorem tm2_225 : Cond.code ⟨"KindTables$Examples", "joinGroups", "(II)V"⟩ prog_2_method_11_code 4 none ∈ tw := tw_2 (i := 225) rfl rfl
theorem tm2_226 : Cond.methodLink "KindTablesLaw" 150 ⟨"KindTablesLaw", "nearest", "(LKindTables;II[J)I"⟩ ∈ tw := tw_2 (i := 226) rfl rfl
theorem tm2_227 : Cond.static ⟨"KindTablesLaw", "nearest", "(LKindTables;II[J)I"⟩ ∈ tw := tw_2 (i := 227) rfl rfl
theorem tm2_228 : Cond.codeWith ⟨"KindTablesLaw", "nearest", "(LKindTables;II[J)I"⟩ method_17_code 5 (some .int) [(0, 10, 13, 13), (0, 10, 17, 21)] ∈ tw := tw_2 (i := 228) rfl rfl
theorem tm2_229 : Cond.methodLink "KindTablesLaw" 61 ⟨"KindTables", "nearest", "(II)I"⟩ ∈ tw := tw_2 (i := 229) rfl rfl
theorem tm2_230 : Cond.instanceMethod ⟨"KindTables", "nearest", "(II)I"⟩ ∈ tw := tw_2 (i := 230) rfl rfl
theorem tm2_231 : Cond.selects "KindTables" ⟨"KindTables", "nearest", "(II)I"⟩ ⟨"KindTables", "nearest", "(II)I"⟩ ∈ tw := tw_2 (i := 231) rfl rfl
theorem tm2_232 : Cond.code ⟨"KindTables", "nearest", "(II)I"⟩ prog_1_method_17_code 3 (some .int) ∈ tw := tw_2 (i := 232) rfl rfl
theorem tm2_234 : Cond.methodLink "KindTables" 144 ⟨"KindTables$Examples", "neighbour", "(II)I"⟩ ∈ tw := tw_2 (i := 234) rfl rfl
theorem tm2_235 : Cond.instanceMethod ⟨"KindTables$Examples", "neighbour", "(II)I"⟩ ∈ tw := tw_2 (i := 235) rfl rfl
theorem tm2_236 : Cond.selects "KindTables$Examples" ⟨"KindTables$Examples", "neighbour", "(II)I"⟩ ⟨"KindTables$Examples", "neighbour", "(II)I"⟩ ∈ tw := tw_2 (i := 236) rfl rfl
theorem tm2_237 : Cond.code ⟨"KindTables$Examples", "neighbour", "(II)I"⟩ prog_2_method_7_code 4 (some .int) ∈ tw := tw_2 (i := 237) rfl rfl
theorem tm2_238 : Cond.methodLink "KindTables$Examples" 41 ⟨"KindTables$Examples", "isCandidate", "(II)Z"⟩ ∈ tw := tw_2 (i := 238) rfl rfl
theorem tm3_0 : Cond.instanceMethod ⟨"KindTables$Examples", "isCandidate", "(II)Z"⟩ ∈ tw := tw_3 (i := 0) rfl rfl
theorem tm3_1 : Cond.code ⟨"KindTables$Examples", "isCandidate", "(II)Z"⟩ prog_2_method_8_code 3 (some .boolean) ∈ tw := tw_3 (i := 1) rfl rfl
theorem tm3_2 : Cond.methodLink "KindTables$Examples" 45 ⟨"KindTables$Examples", "countNearer", "(II)I"⟩ ∈ tw := tw_3 (i := 2) rfl rfl
theorem tm3_4 : Cond.instanceMethod ⟨"KindTables$Examples", "countNearer", "(II)I"⟩ ∈ tw := tw_3 (i := 4) rfl rfl
theorem tm3_5 : Cond.code ⟨"KindTables$Examples", "countNearer", "(II)I"⟩ prog_2_method_9_code 7 (some .int) ∈ tw := tw_3 (i := 5) rfl rfl
theorem tm3_6 : Cond.methodLink "KindTables$Examples" 48 ⟨"KindTables$Examples", "squares", "(II)I"⟩ ∈ tw := tw_3 (i := 6) rfl rfl
theorem tm3_7 : Cond.instanceMethod ⟨"KindTables$Examples", "squares", "(II)I"⟩ ∈ tw := tw_3 (i := 7) rfl rfl
theorem tm3_8 : Cond.selects "KindTables$Examples" ⟨"KindTables$Examples", "squares", "(II)I"⟩ ⟨"KindTables$Examples", "squares", "(II)I"⟩ ∈ tw := tw_3 (i := 8) rfl rfl
theorem tm3_9 : Cond.code ⟨"KindTables$Examples", "squares", "(II)I"⟩ prog_2_method_6_code 5 (some .int) ∈ tw := tw_3 (i := 9) rfl rfl
theorem tm3_11 : Cond.static ⟨"KindTables", "square", "(I)I"⟩ ∈ tw := tw_3 (i := 11) rfl rfl
theorem tm3_12 : Cond.code ⟨"KindTables", "square", "(I)I"⟩ prog_1_method_36_code 1 (some .int) ∈ tw := tw_3 (i := 12) rfl rfl
theorem tm3_13 : Cond.methodLink "KindTablesLaw" 153 ⟨"KindTablesLaw", "distance", "(LKindTables;II[J)I"⟩ ∈ tw := tw_3 (i := 13) rfl rfl
theorem tm3_14 : Cond.static ⟨"KindTablesLaw", "distance", "(LKindTables;II[J)I"⟩ ∈ tw := tw_3 (i := 14) rfl rfl
theorem tm3_15 : Cond.codeWith ⟨"KindTablesLaw", "distance", "(LKindTables;II[J)I"⟩ method_18_code 5 (some .int) [(0, 10, 13, 13)] ∈ tw := tw_3 (i := 15) rfl rfl
theorem tm3_16 : Cond.methodLink "KindTablesLaw" 64 ⟨"KindTables", "distance", "(II)I"⟩ ∈ tw := tw_3 (i := 16) rfl rfl
theorem tm3_17 : Cond.instanceMethod ⟨"KindTables", "distance", "(II)I"⟩ ∈ tw := tw_3 (i := 17) rfl rfl
theorem tm3_18 : Cond.selects "KindTables" ⟨"KindTables", "distance", "(II)I"⟩ ⟨"KindTables", "distance", "(II)I"⟩ ∈ tw := tw_3 (i := 18) rfl rfl
theorem tm3_19 : Cond.code ⟨"KindTables", "distance", "(II)I"⟩ prog_1_method_18_code 3 (some .int) ∈ tw := tw_3 (i := 19) rfl rfl
theorem tm3_20 : Cond.methodLink "KindTables" 147 ⟨"KindTables$Examples", "squares", "(II)I"⟩ ∈ tw := tw_3 (i := 20) rfl rfl
theorem tm3_21 : Cond.methodLink "KindTablesLaw" 156 ⟨"KindTablesLaw", "haul", "(LKindTables;II[J)I"⟩ ∈ tw := tw_3 (i := 21) rfl rfl
theorem tm3_22 : Cond.static ⟨"KindTablesLaw", "haul", "(LKindTables;II[J)I"⟩ ∈ tw := tw_3 (i := 22) rfl rfl
theorem tm3_23 : Cond.codeWith ⟨"KindTablesLaw", "haul", "(LKindTables;II[J)I"⟩ method_19_code 5 (some .int) [(0, 10, 13, 21), (0, 10, 17, 15)] ∈ tw := tw_3 (i := 23) rfl rfl
theorem tm3_24 : Cond.methodLink "KindTablesLaw" 67 ⟨"KindTables", "haul", "(II)I"⟩ ∈ tw := tw_3 (i := 24) rfl rfl
theorem tm3_25 : Cond.instanceMethod ⟨"KindTables", "haul", "(II)I"⟩ ∈ tw := tw_3 (i := 25) rfl rfl
theorem tm3_26 : Cond.selects "KindTables" ⟨"KindTables", "haul", "(II)I"⟩ ⟨"KindTables", "haul", "(II)I"⟩ ∈ tw := tw_3 (i := 26) rfl rfl
theorem tm3_27 : Cond.code ⟨"KindTables", "haul", "(II)I"⟩ prog_1_method_19_code 3 (some .int) ∈ tw := tw_3 (i := 27) rfl rfl
theorem tm3_28 : Cond.methodLink "KindTables" 150 ⟨"KindTables", "needPlace", "(II)V"⟩ ∈ tw := tw_3 (i := 28) rfl rfl
theorem tm3_29 : Cond.static ⟨"KindTables", "needPlace", "(II)V"⟩ ∈ tw := tw_3 (i := 29) rfl rfl
theorem tm3_30 : Cond.code ⟨"KindTables", "needPlace", "(II)V"⟩ prog_1_method_33_code 2 none ∈ tw := tw_3 (i := 30) rfl rfl
theorem tm3_32 : Cond.methodLink "KindTables" 157 ⟨"KindTables$Hauls", "add", "(II)I"⟩ ∈ tw := tw_3 (i := 32) rfl rfl
theorem tm3_33 : Cond.instanceMethod ⟨"KindTables$Hauls", "add", "(II)I"⟩ ∈ tw := tw_3 (i := 33) rfl rfl
theorem tm3_34 : Cond.selects "KindTables$Hauls" ⟨"KindTables$Hauls", "add", "(II)I"⟩ ⟨"KindTables$Hauls", "add", "(II)I"⟩ ∈ tw := tw_3 (i := 34) rfl rfl
theorem tm3_35 : Cond.code ⟨"KindTables$Hauls", "add", "(II)I"⟩ prog_3_method_2_code 3 (some .int) ∈ tw := tw_3 (i := 35) rfl rfl
theorem tm3_36 : Cond.methodLink "KindTablesLaw" 159 ⟨"KindTablesLaw", "grams", "(LKindTables;III[J)I"⟩ ∈ tw := tw_3 (i := 36) rfl rfl
theorem tm3_37 : Cond.static ⟨"KindTablesLaw", "grams", "(LKindTables;III[J)I"⟩ ∈ tw := tw_3 (i := 37) rfl rfl
theorem tm3_38 : Cond.codeWith ⟨"KindTablesLaw", "grams", "(LKindTables;III[J)I"⟩ method_20_code 6 (some .int) [(0, 12, 15, 13), (0, 12, 19, 21)] ∈ tw := tw_3 (i := 38) rfl rfl
theorem tm3_39 : Cond.methodLink "KindTablesLaw" 70 ⟨"KindTables", "grams", "(III)I"⟩ ∈ tw := tw_3 (i := 39) rfl rfl
theorem tm3_40 : Cond.instanceMethod ⟨"KindTables", "grams", "(III)I"⟩ ∈ tw := tw_3 (i := 40) rfl rfl
theorem tm3_41 : Cond.selects "KindTables" ⟨"KindTables", "grams", "(III)I"⟩ ⟨"KindTables", "grams", "(III)I"⟩ ∈ tw := tw_3 (i := 41) rfl rfl
theorem tm3_42 : Cond.code ⟨"KindTables", "grams", "(III)I"⟩ prog_1_method_20_code 5 (some .int) ∈ tw := tw_3 (i := 42) rfl rfl
theorem tm3_43 : Cond.methodLink "KindTables" 159 ⟨"KindTables", "needHaul", "(I)V"⟩ ∈ tw := tw_3 (i := 43) rfl rfl
theorem tm3_45 : Cond.instanceMethod ⟨"KindTables", "needHaul", "(I)V"⟩ ∈ tw := tw_3 (i := 45) rfl rfl
theorem tm3_46 : Cond.code ⟨"KindTables", "needHaul", "(I)V"⟩ prog_1_method_30_code 2 none ∈ tw := tw_3 (i := 46) rfl rfl
theorem tm3_48 : Cond.methodLink "KindTablesLaw" 162 ⟨"KindTablesLaw", "share", "(LKindTables;IIII[J)I"⟩ ∈ tw := tw_3 (i := 48) rfl rfl
theorem tm3_49 : Cond.static ⟨"KindTablesLaw", "share", "(LKindTables;IIII[J)I"⟩ ∈ tw := tw_3 (i := 49) rfl rfl
theorem tm3_50 : Cond.codeWith ⟨"KindTablesLaw", "share", "(LKindTables;IIII[J)I"⟩ method_21_code 7 (some .int) [(0, 13, 16, 13), (0, 13, 20, 21)] ∈ tw := tw_3 (i := 50) rfl rfl
theorem tm3_51 : Cond.methodLink "KindTablesLaw" 73 ⟨"KindTables", "share", "(IIII)J"⟩ ∈ tw := tw_3 (i := 51) rfl rfl
theorem tm3_52 : Cond.instanceMethod ⟨"KindTables", "share", "(IIII)J"⟩ ∈ tw := tw_3 (i := 52) rfl rfl
theorem tm3_53 : Cond.selects "KindTables" ⟨"KindTables", "share", "(IIII)J"⟩ ⟨"KindTables", "share", "(IIII)J"⟩ ∈ tw := tw_3 (i := 53) rfl rfl
theorem tm3_54 : Cond.code ⟨"KindTables", "share", "(IIII)J"⟩ prog_1_method_21_code 5 (some .long) ∈ tw := tw_3 (i := 54) rfl rfl
theorem tm3_55 : Cond.methodLink "KindTables" 165 ⟨"KindTables$Hauls", "sharePart", "(IIII)J"⟩ ∈ tw := tw_3 (i := 55) rfl rfl
theorem tm3_56 : Cond.instanceMethod ⟨"KindTables$Hauls", "sharePart", "(IIII)J"⟩ ∈ tw := tw_3 (i := 56) rfl rfl
theorem tm3_57 : Cond.selects "KindTables$Hauls" ⟨"KindTables$Hauls", "sharePart", "(IIII)J"⟩ ⟨"KindTables$Hauls", "sharePart", "(IIII)J"⟩ ∈ tw := tw_3 (i := 57) rfl rfl
theorem tm3_58 : Cond.code ⟨"KindTables$Hauls", "sharePart", "(IIII)J"⟩ prog_3_method_3_code 17 (some .long) ∈ tw := tw_3 (i := 58) rfl rfl
theorem tm3_59 : Cond.methodLink "KindTables$Hauls" 30 ⟨"KindTables$Hauls", "nearestFilled", "(III)I"⟩ ∈ tw := tw_3 (i := 59) rfl rfl
theorem tm3_61 : Cond.instanceMethod ⟨"KindTables$Hauls", "nearestFilled", "(III)I"⟩ ∈ tw := tw_3 (i := 61) rfl rfl
theorem tm3_62 : Cond.code ⟨"KindTables$Hauls", "nearestFilled", "(III)I"⟩ prog_3_method_4_code 8 (some .int) ∈ tw := tw_3 (i := 62) rfl rfl
theorem tm3_63 : Cond.methodLink "KindTables$Hauls" 38 ⟨"KindTables$Hauls", "allGrams", "(I)I"⟩ ∈ tw := tw_3 (i := 63) rfl rfl
theorem tm3_65 : Cond.instanceMethod ⟨"KindTables$Hauls", "allGrams", "(I)I"⟩ ∈ tw := tw_3 (i := 65) rfl rfl
theorem tm3_66 : Cond.code ⟨"KindTables$Hauls", "allGrams", "(I)I"⟩ prog_3_method_6_code 4 (some .int) ∈ tw := tw_3 (i := 66) rfl rfl
theorem tm3_67 : Cond.methodLink "KindTables$Hauls" 42 ⟨"KindTables$Hauls", "squareTo", "(III)I"⟩ ∈ tw := tw_3 (i := 67) rfl rfl
theorem tm3_69 : Cond.instanceMethod ⟨"KindTables$Hauls", "squareTo", "(III)I"⟩ ∈ tw := tw_3 (i := 69) rfl rfl
theorem tm3_70 : Cond.code ⟨"KindTables$Hauls", "squareTo", "(III)I"⟩ prog_3_method_5_code 4 (some .int) ∈ tw := tw_3 (i := 70) rfl rfl
theorem tm3_73 : Cond.methodLink "KindTablesLaw" 166 ⟨"KindTablesLaw", "law", "(LKindTables;III[J)I"⟩ ∈ tw := tw_3 (i := 73) rfl rfl
theorem tm3_74 : Cond.static ⟨"KindTablesLaw", "law", "(LKindTables;III[J)I"⟩ ∈ tw := tw_3 (i := 74) rfl rfl
theorem tm3_75 : Cond.codeWith ⟨"KindTablesLaw", "law", "(LKindTables;III[J)I"⟩ method_22_code 6 (some .int) [(0, 12, 15, 13), (0, 12, 19, 21), (0, 12, 23, 15)] ∈ tw := tw_3 (i := 75) rfl rfl
theorem tm3_76 : Cond.methodLink "KindTablesLaw" 77 ⟨"KindTables", "law", "(III)I"⟩ ∈ tw := tw_3 (i := 76) rfl rfl
theorem tm3_77 : Cond.instanceMethod ⟨"KindTables", "law", "(III)I"⟩ ∈ tw := tw_3 (i := 77) rfl rfl
theorem tm3_78 : Cond.selects "KindTables" ⟨"KindTables", "law", "(III)I"⟩ ⟨"KindTables", "law", "(III)I"⟩ ∈ tw := tw_3 (i := 78) rfl rfl
theorem tm3_79 : Cond.code ⟨"KindTables", "law", "(III)I"⟩ prog_1_method_22_code 5 (some .int) ∈ tw := tw_3 (i := 79) rfl rfl
theorem tm3_80 : Cond.methodLink "KindTables" 169 ⟨"KindTables$Law", "lastLength", "()I"⟩ ∈ tw := tw_3 (i := 80) rfl rfl
theorem tm3_81 : Cond.instanceMethod ⟨"KindTables$Law", "lastLength", "()I"⟩ ∈ tw := tw_3 (i := 81) rfl rfl
theorem tm3_82 : Cond.selects "KindTables$Law" ⟨"KindTables$Law", "lastLength", "()I"⟩ ⟨"KindTables$Law", "lastLength", "()I"⟩ ∈ tw := tw_3 (i := 82) rfl rfl
theorem tm3_83 : Cond.code ⟨"KindTables$Law", "lastLength", "()I"⟩ prog_4_method_2_code 1 (some .int) ∈ tw := tw_3 (i := 83) rfl rfl
theorem tm3_86 : Cond.methodLink "KindTables" 179 ⟨"KindTables$Law", "add", "(II)I"⟩ ∈ tw := tw_3 (i := 86) rfl rfl
theorem tm3_87 : Cond.instanceMethod ⟨"KindTables$Law", "add", "(II)I"⟩ ∈ tw := tw_3 (i := 87) rfl rfl
theorem tm3_88 : Cond.selects "KindTables$Law" ⟨"KindTables$Law", "add", "(II)I"⟩ ⟨"KindTables$Law", "add", "(II)I"⟩ ∈ tw := tw_3 (i := 88) rfl rfl
theorem tm3_89 : Cond.code ⟨"KindTables$Law", "add", "(II)I"⟩ prog_4_method_3_code 3 (some .int) ∈ tw := tw_3 (i := 89) rfl rfl
theorem tm3_90 : Cond.methodLink "KindTablesLaw" 169 ⟨"KindTablesLaw", "strength", "(LKindTables;II[J)I"⟩ ∈ tw := tw_3 (i := 90) rfl rfl
theorem tm3_91 : Cond.static ⟨"KindTablesLaw", "strength", "(LKindTables;II[J)I"⟩ ∈ tw := tw_3 (i := 91) rfl rfl
theorem tm3_92 : Cond.codeWith ⟨"KindTablesLaw", "strength", "(LKindTables;II[J)I"⟩ method_23_code 5 (some .int) [(0, 10, 13, 13)] ∈ tw := tw_3 (i := 92) rfl rfl
theorem tm3_93 : Cond.methodLink "KindTablesLaw" 80 ⟨"KindTables", "strength", "(II)I"⟩ ∈ tw := tw_3 (i := 93) rfl rfl
theorem tm3_94 : Cond.instanceMethod ⟨"KindTables", "strength", "(II)I"⟩ ∈ tw := tw_3 (i := 94) rfl rfl
theorem tm3_95 : Cond.selects "KindTables" ⟨"KindTables", "strength", "(II)I"⟩ ⟨"KindTables", "strength", "(II)I"⟩ ∈ tw := tw_3 (i := 95) rfl rfl
theorem tm3_96 : Cond.code ⟨"KindTables", "strength", "(II)I"⟩ prog_1_method_23_code 3 (some .int) ∈ tw := tw_3 (i := 96) rfl rfl
theorem tm3_97 : Cond.methodLink "KindTables" 180 ⟨"KindTables$Law", "strengthAt", "(I)I"⟩ ∈ tw := tw_3 (i := 97) rfl rfl
theorem tm3_98 : Cond.instanceMethod ⟨"KindTables$Law", "strengthAt", "(I)I"⟩ ∈ tw := tw_3 (i := 98) rfl rfl
theorem tm3_99 : Cond.selects "KindTables$Law" ⟨"KindTables$Law", "strengthAt", "(I)I"⟩ ⟨"KindTables$Law", "strengthAt", "(I)I"⟩ ∈ tw := tw_3 (i := 99) rfl rfl
theorem tm3_100 : Cond.code ⟨"KindTables$Law", "strengthAt", "(I)I"⟩ prog_4_method_4_code 3 (some .int) ∈ tw := tw_3 (i := 100) rfl rfl
theorem tm3_101 : Cond.methodLink "KindTables$Law" 22 ⟨"KindTables$Law", "strengthBefore", "(II)I"⟩ ∈ tw := tw_3 (i := 101) rfl rfl
theorem tm3_103 : Cond.instanceMethod ⟨"KindTables$Law", "strengthBefore", "(II)I"⟩ ∈ tw := tw_3 (i := 103) rfl rfl
theorem tm3_104 : Cond.code ⟨"KindTables$Law", "strengthBefore", "(II)I"⟩ prog_4_method_5_code 6 (some .int) ∈ tw := tw_3 (i := 104) rfl rfl
theorem tm3_105 : Cond.methodLink "KindTables$Law" 26 ⟨"java/lang/Math", "floorDiv", "(II)I"⟩ ∈ tw := tw_3 (i := 105) rfl rfl
theorem tm3_106 : Cond.static ⟨"java/lang/Math", "floorDiv", "(II)I"⟩ ∈ tw := tw_3 (i := 106) rfl rfl
theorem tm3_107 : Cond.code ⟨"java/lang/Math", "floorDiv", "(II)I"⟩ prog_12_method_47_code 3 (some .int) ∈ tw := tw_3 (i := 107) rfl rfl
theorem tm3_108 : Cond.methodLink "KindTablesLaw" 172 ⟨"KindTablesLaw", "length", "(LKindTables;II[J)I"⟩ ∈ tw := tw_3 (i := 108) rfl rfl
theorem tm3_109 : Cond.static ⟨"KindTablesLaw", "length", "(LKindTables;II[J)I"⟩ ∈ tw := tw_3 (i := 109) rfl rfl
theorem tm3_110 : Cond.codeWith ⟨"KindTablesLaw", "length", "(LKindTables;II[J)I"⟩ method_24_code 5 (some .int) [(0, 10, 13, 13)] ∈ tw := tw_3 (i := 110) rfl rfl
theorem tm3_111 : Cond.methodLink "KindTablesLaw" 83 ⟨"KindTables", "length", "(II)I"⟩ ∈ tw := tw_3 (i := 111) rfl rfl
theorem tm3_112 : Cond.instanceMethod ⟨"KindTables", "length", "(II)I"⟩ ∈ tw := tw_3 (i := 112) rfl rfl
theorem tm3_113 : Cond.selects "KindTables" ⟨"KindTables", "length", "(II)I"⟩ ⟨"KindTables", "length", "(II)I"⟩ ∈ tw := tw_3 (i := 113) rfl rfl
theorem tm3_114 : Cond.code ⟨"KindTables", "length", "(II)I"⟩ prog_1_method_24_code 3 (some .int) ∈ tw := tw_3 (i := 114) rfl rfl
theorem tm3_115 : Cond.methodLink "KindTables" 183 ⟨"KindTables$Law", "leastLength", "(I)I"⟩ ∈ tw := tw_3 (i := 115) rfl rfl
theorem tm3_116 : Cond.instanceMethod ⟨"KindTables$Law", "leastLength", "(I)I"⟩ ∈ tw := tw_3 (i := 116) rfl rfl
theorem tm3_117 : Cond.selects "KindTables$Law" ⟨"KindTables$Law", "leastLength", "(I)I"⟩ ⟨"KindTables$Law", "leastLength", "(I)I"⟩ ∈ tw := tw_3 (i := 117) rfl rfl
theorem tm3_118 : Cond.code ⟨"KindTables$Law", "leastLength", "(I)I"⟩ prog_4_method_6_code 3 (some .int) ∈ tw := tw_3 (i := 118) rfl rfl
theorem tm3_119 : Cond.methodLink "KindTables$Law" 31 ⟨"KindTables$Law", "leastLengthBefore", "(II)I"⟩ ∈ tw := tw_3 (i := 119) rfl rfl
theorem tm3_121 : Cond.instanceMethod ⟨"KindTables$Law", "leastLengthBefore", "(II)I"⟩ ∈ tw := tw_3 (i := 121) rfl rfl
theorem tm3_122 : Cond.code ⟨"KindTables$Law", "leastLengthBefore", "(II)I"⟩ prog_4_method_7_code 6 (some .int) ∈ tw := tw_3 (i := 122) rfl rfl
theorem tm3_123 : Cond.classLink "KindTablesLaw" 94 "KindTablesModel" ∈ tw := tw_3 (i := 123) rfl rfl
theorem tm3_124 : Cond.instantiable "KindTablesModel" 17 ∈ tw := tw_3 (i := 124) rfl rfl
theorem tm3_125 : Cond.methodLink "KindTablesLaw" 96 ⟨"KindTablesModel", "<init>", "(II)V"⟩ ∈ tw := tw_3 (i := 125) rfl rfl
theorem tm3_126 : Cond.instanceMethod ⟨"KindTablesModel", "<init>", "(II)V"⟩ ∈ tw := tw_3 (i := 126) rfl rfl
theorem tm3_127 : Cond.code ⟨"KindTablesModel", "<init>", "(II)V"⟩ prog_7_method_1_code 4 none ∈ tw := tw_3 (i := 127) rfl rfl
theorem tm3_128 : Cond.methodLink "KindTablesModel" 1 ⟨"java/lang/Object", "<init>", "()V"⟩ ∈ tw := tw_3 (i := 128) rfl rfl
theorem tm3_129 : Cond.fieldLink "KindTablesModel" 53 "KindTablesModel" "thrown" "I" ∈ tw := tw_3 (i := 129) rfl rfl
theorem tm3_130 : Cond.fieldLink "KindTablesModel" 47 "KindTablesModel" "kinds" "I" ∈ tw := tw_3 (i := 130) rfl rfl
theorem tm3_131 : Cond.fieldLink "KindTablesModel" 50 "KindTablesModel" "features" "I" ∈ tw := tw_3 (i := 131) rfl rfl
theorem tm3_132 : Cond.fieldLink "KindTablesModel" 7 "KindTablesModel" "widths" "[I" ∈ tw := tw_3 (i := 132) rfl rfl
theorem tm3_133 : Cond.fieldLink "KindTablesModel" 60 "KindTablesModel" "examples" "I" ∈ tw := tw_3 (i := 133) rfl rfl
theorem tm3_134 : Cond.fieldLink "KindTablesModel" 13 "KindTablesModel" "taught" "[I" ∈ tw := tw_3 (i := 134) rfl rfl
theorem tm3_135 : Cond.fieldLink "KindTablesModel" 16 "KindTablesModel" "numbers" "[I" ∈ tw := tw_3 (i := 135) rfl rfl
theorem tm3_136 : Cond.fieldLink "KindTablesModel" 19 "KindTablesModel" "order" "[I" ∈ tw := tw_3 (i := 136) rfl rfl
theorem tm3_137 : Cond.fieldLink "KindTablesModel" 22 "KindTablesModel" "bound" "I" ∈ tw := tw_3 (i := 137) rfl rfl
theorem tm3_138 : Cond.fieldLink "KindTablesModel" 107 "KindTablesModel" "hauls" "I" ∈ tw := tw_3 (i := 138) rfl rfl
theorem tm3_139 : Cond.fieldLink "KindTablesModel" 26 "KindTablesModel" "xs" "[I" ∈ tw := tw_3 (i := 139) rfl rfl
theorem tm3_140 : Cond.fieldLink "KindTablesModel" 29 "KindTablesModel" "ys" "[I" ∈ tw := tw_3 (i := 140) rfl rfl
theorem tm3_141 : Cond.fieldLink "KindTablesModel" 32 "KindTablesModel" "grams" "[I" ∈ tw := tw_3 (i := 141) rfl rfl
theorem tm3_142 : Cond.fieldLink "KindTablesModel" 35 "KindTablesModel" "rows" "[I" ∈ tw := tw_3 (i := 142) rfl rfl
theorem tm3_143 : Cond.fieldLink "KindTablesModel" 38 "KindTablesModel" "rowLengths" "[I" ∈ tw := tw_3 (i := 143) rfl rfl
theorem tm3_144 : Cond.fieldLink "KindTablesModel" 41 "KindTablesModel" "rowStrengths" "[I" ∈ tw := tw_3 (i := 144) rfl rfl
theorem tm3_145 : Cond.fieldLink "KindTablesModel" 44 "KindTablesModel" "group" "[I" ∈ tw := tw_3 (i := 145) rfl rfl
theorem tm3_146 : Cond.lays "KindTablesModel" "KindTablesModel" "thrown" "I" ∈ tw := tw_3 (i := 146) rfl rfl
theorem tm3_147 : Cond.soleField "KindTablesModel" "thrown" ∈ tw := tw_3 (i := 147) rfl rfl
theorem tm3_148 : Cond.laysFinal "KindTablesModel" "KindTablesModel" "kinds" "I" ∈ tw := tw_3 (i := 148) rfl rfl
theorem tm3_149 : Cond.soleField "KindTablesModel" "kinds" ∈ tw := tw_3 (i := 149) rfl rfl
theorem tm3_150 : Cond.laysFinal "KindTablesModel" "KindTablesModel" "features" "I" ∈ tw := tw_3 (i := 150) rfl rfl
theorem tm3_151 : Cond.soleField "KindTablesModel" "features" ∈ tw := tw_3 (i := 151) rfl rfl
theorem tm3_152 : Cond.laysFinal "KindTablesModel" "KindTablesModel" "widths" "[I" ∈ tw := tw_3 (i := 152) rfl rfl
theorem tm3_153 : Cond.soleField "KindTablesModel" "widths" ∈ tw := tw_3 (i := 153) rfl rfl
theorem tm3_154 : Cond.lays "KindTablesModel" "KindTablesModel" "examples" "I" ∈ tw := tw_3 (i := 154) rfl rfl
theorem tm3_155 : Cond.soleField "KindTablesModel" "examples" ∈ tw := tw_3 (i := 155) rfl rfl
theorem tm3_156 : Cond.laysFinal "KindTablesModel" "KindTablesModel" "taught" "[I" ∈ tw := tw_3 (i := 156) rfl rfl
theorem tm3_157 : Cond.soleField "KindTablesModel" "taught" ∈ tw := tw_3 (i := 157) rfl rfl
theorem tm3_158 : Cond.laysFinal "KindTablesModel" "KindTablesModel" "numbers" "[I" ∈ tw := tw_3 (i := 158) rfl rfl
theorem tm3_159 : Cond.soleField "KindTablesModel" "numbers" ∈ tw := tw_3 (i := 159) rfl rfl
theorem tm3_160 : Cond.laysFinal "KindTablesModel" "KindTablesModel" "order" "[I" ∈ tw := tw_3 (i := 160) rfl rfl
theorem tm3_161 : Cond.soleField "KindTablesModel" "order" ∈ tw := tw_3 (i := 161) rfl rfl
theorem tm3_162 : Cond.lays "KindTablesModel" "KindTablesModel" "bound" "I" ∈ tw := tw_3 (i := 162) rfl rfl
theorem tm3_163 : Cond.soleField "KindTablesModel" "bound" ∈ tw := tw_3 (i := 163) rfl rfl
theorem tm3_164 : Cond.lays "KindTablesModel" "KindTablesModel" "hauls" "I" ∈ tw := tw_3 (i := 164) rfl rfl
theorem tm3_165 : Cond.soleField "KindTablesModel" "hauls" ∈ tw := tw_3 (i := 165) rfl rfl
theorem tm3_166 : Cond.laysFinal "KindTablesModel" "KindTablesModel" "xs" "[I" ∈ tw := tw_3 (i := 166) rfl rfl
theorem tm3_167 : Cond.soleField "KindTablesModel" "xs" ∈ tw := tw_3 (i := 167) rfl rfl
theorem tm3_168 : Cond.laysFinal "KindTablesModel" "KindTablesModel" "ys" "[I" ∈ tw := tw_3 (i := 168) rfl rfl
theorem tm3_169 : Cond.soleField "KindTablesModel" "ys" ∈ tw := tw_3 (i := 169) rfl rfl
theorem tm3_170 : Cond.laysFinal "KindTablesModel" "KindTablesModel" "grams" "[I" ∈ tw := tw_3 (i := 170) rfl rfl
theorem tm3_171 : Cond.soleField "KindTablesModel" "grams" ∈ tw := tw_3 (i := 171) rfl rfl
theorem tm3_172 : Cond.laysFinal "KindTablesModel" "KindTablesModel" "rows" "[I" ∈ tw := tw_3 (i := 172) rfl rfl
theorem tm3_173 : Cond.soleField "KindTablesModel" "rows" ∈ tw := tw_3 (i := 173) rfl rfl
theorem tm3_174 : Cond.laysFinal "KindTablesModel" "KindTablesModel" "rowLengths" "[I" ∈ tw := tw_3 (i := 174) rfl rfl
theorem tm3_175 : Cond.soleField "KindTablesModel" "rowLengths" ∈ tw := tw_3 (i := 175) rfl rfl
theorem tm3_176 : Cond.laysFinal "KindTablesModel" "KindTablesModel" "rowStrengths" "[I" ∈ tw := tw_3 (i := 176) rfl rfl
theorem tm3_177 : Cond.soleField "KindTablesModel" "rowStrengths" ∈ tw := tw_3 (i := 177) rfl rfl
theorem tm3_178 : Cond.laysFinal "KindTablesModel" "KindTablesModel" "group" "[I" ∈ tw := tw_3 (i := 178) rfl rfl
theorem tm3_179 : Cond.soleField "KindTablesModel" "group" ∈ tw := tw_3 (i := 179) rfl rfl
theorem tm3_180 : Cond.superclass "KindTablesModel" "java/lang/Object" ∈ tw := tw_3 (i := 180) rfl rfl
theorem tm3_181 : Cond.methodLink "KindTablesLaw" 101 ⟨"KindTablesModel", "thrown", "()I"⟩ ∈ tw := tw_3 (i := 181) rfl rfl
theorem tm3_182 : Cond.instanceMethod ⟨"KindTablesModel", "thrown", "()I"⟩ ∈ tw := tw_3 (i := 182) rfl rfl
theorem tm3_183 : Cond.selects "KindTablesModel" ⟨"KindTablesModel", "thrown", "()I"⟩ ⟨"KindTablesModel", "thrown", "()I"⟩ ∈ tw := tw_3 (i := 183) rfl rfl
theorem tm3_184 : Cond.code ⟨"KindTablesModel", "thrown", "()I"⟩ prog_7_method_2_code 1 (some .int) ∈ tw := tw_3 (i := 184) rfl rfl
theorem tm3_185 : Cond.methodLink "KindTablesLaw" 100 ⟨"KindTablesModel", "example", "(I)I"⟩ ∈ tw := tw_3 (i := 185) rfl rfl
theorem tm3_186 : Cond.instanceMethod ⟨"KindTablesModel", "example", "(I)I"⟩ ∈ tw := tw_3 (i := 186) rfl rfl
theorem tm3_187 : Cond.selects "KindTablesModel" ⟨"KindTablesModel", "example", "(I)I"⟩ ⟨"KindTablesModel", "example", "(I)I"⟩ ∈ tw := tw_3 (i := 187) rfl rfl
theorem tm3_188 : Cond.code ⟨"KindTablesModel", "example", "(I)I"⟩ prog_7_method_7_code 2 (some .int) ∈ tw := tw_3 (i := 188) rfl rfl
theorem tm3_189 : Cond.methodLink "KindTablesModel" 63 ⟨"KindTablesModel", "isKind", "(I)Z"⟩ ∈ tw := tw_3 (i := 189) rfl rfl
theorem tm3_191 : Cond.instanceMethod ⟨"KindTablesModel", "isKind", "(I)Z"⟩ ∈ tw := tw_3 (i := 191) rfl rfl
theorem tm3_192 : Cond.code ⟨"KindTablesModel", "isKind", "(I)Z"⟩ prog_7_method_4_code 2 (some .boolean) ∈ tw := tw_3 (i := 192) rfl rfl
theorem tm3_193 : Cond.methodLink "KindTablesModel" 56 ⟨"KindTablesModel", "isIn", "(III)Z"⟩ ∈ tw := tw_3 (i := 193) rfl rfl
theorem tm3_194 : Cond.static ⟨"KindTablesModel", "isIn", "(III)Z"⟩ ∈ tw := tw_3 (i := 194) rfl rfl
theorem tm3_195 : Cond.code ⟨"KindTablesModel", "isIn", "(III)Z"⟩ prog_7_method_3_code 3 (some .boolean) ∈ tw := tw_3 (i := 195) rfl rfl
theorem tm3_196 : Cond.methodLink "KindTablesLaw" 108 ⟨"KindTablesModel", "value", "(III)Z"⟩ ∈ tw := tw_3 (i := 196) rfl rfl
theorem tm3_197 : Cond.instanceMethod ⟨"KindTablesModel", "value", "(III)Z"⟩ ∈ tw := tw_3 (i := 197) rfl rfl
theorem tm3_198 : Cond.selects "KindTablesModel" ⟨"KindTablesModel", "value", "(III)Z"⟩ ⟨"KindTablesModel", "value", "(III)Z"⟩ ∈ tw := tw_3 (i := 198) rfl rfl
theorem tm3_199 : Cond.code ⟨"KindTablesModel", "value", "(III)Z"⟩ prog_7_method_8_code 5 (some .boolean) ∈ tw := tw_3 (i := 199) rfl rfl
theorem tm3_200 : Cond.methodLink "KindTablesModel" 67 ⟨"KindTablesModel", "isExample", "(I)Z"⟩ ∈ tw := tw_3 (i := 200) rfl rfl
theorem tm3_202 : Cond.instanceMethod ⟨"KindTablesModel", "isExample", "(I)Z"⟩ ∈ tw := tw_3 (i := 202) rfl rfl
theorem tm3_203 : Cond.code ⟨"KindTablesModel", "isExample", "(I)Z"⟩ prog_7_method_5_code 2 (some .boolean) ∈ tw := tw_3 (i := 203) rfl rfl
theorem tm3_204 : Cond.methodLink "KindTablesModel" 70 ⟨"KindTablesModel", "isFeature", "(I)Z"⟩ ∈ tw := tw_3 (i := 204) rfl rfl
theorem tm3_206 : Cond.instanceMethod ⟨"KindTablesModel", "isFeature", "(I)Z"⟩ ∈ tw := tw_3 (i := 206) rfl rfl
theorem tm3_207 : Cond.code ⟨"KindTablesModel", "isFeature", "(I)Z"⟩ prog_7_method_6_code 2 (some .boolean) ∈ tw := tw_3 (i := 207) rfl rfl
theorem tm3_208 : Cond.methodLink "KindTablesLaw" 112 ⟨"KindTablesModel", "teach", "(II)I"⟩ ∈ tw := tw_3 (i := 208) rfl rfl
theorem tm3_209 : Cond.instanceMethod ⟨"KindTablesModel", "teach", "(II)I"⟩ ∈ tw := tw_3 (i := 209) rfl rfl
theorem tm3_210 : Cond.selects "KindTablesModel" ⟨"KindTablesModel", "teach", "(II)I"⟩ ⟨"KindTablesModel", "teach", "(II)I"⟩ ∈ tw := tw_3 (i := 210) rfl rfl
theorem tm3_211 : Cond.code ⟨"KindTablesModel", "teach", "(II)I"⟩ prog_7_method_9_code 4 (some .int) ∈ tw := tw_3 (i := 211) rfl rfl
theorem tm3_212 : Cond.methodLink "KindTablesLaw" 115 ⟨"KindTablesModel", "width", "(II)I"⟩ ∈ tw := tw_3 (i := 212) rfl rfl
theorem tm3_213 : Cond.instanceMethod ⟨"KindTablesModel", "width", "(II)I"⟩ ∈ tw := tw_3 (i := 213) rfl rfl
theorem tm3_214 : Cond.selects "KindTablesModel" ⟨"KindTablesModel", "width", "(II)I"⟩ ⟨"KindTablesModel", "width", "(II)I"⟩ ∈ tw := tw_3 (i := 214) rfl rfl
theorem tm3_215 : Cond.code ⟨"KindTablesModel", "width", "(II)I"⟩ prog_7_method_10_code 4 (some .int) ∈ tw := tw_3 (i := 215) rfl rfl
theorem tm3_216 : Cond.methodLink "KindTablesLaw" 118 ⟨"KindTablesModel", "cell", "(II)I"⟩ ∈ tw := tw_3 (i := 216) rfl rfl
theorem tm3_217 : Cond.instanceMethod ⟨"KindTablesModel", "cell", "(II)I"⟩ ∈ tw := tw_3 (i := 217) rfl rfl
theorem tm3_218 : Cond.selects "KindTablesModel" ⟨"KindTablesModel", "cell", "(II)I"⟩ ⟨"KindTablesModel", "cell", "(II)I"⟩ ∈ tw := tw_3 (i := 218) rfl rfl
theorem tm3_219 : Cond.code ⟨"KindTablesModel", "cell", "(II)I"⟩ prog_7_method_12_code 3 (some .int) ∈ tw := tw_3 (i := 219) rfl rfl
theorem tm3_220 : Cond.methodLink "KindTablesModel" 73 ⟨"KindTablesModel", "cellOf", "(II)I"⟩ ∈ tw := tw_3 (i := 220) rfl rfl
theorem tm3_222 : Cond.instanceMethod ⟨"KindTablesModel", "cellOf", "(II)I"⟩ ∈ tw := tw_3 (i := 222) rfl rfl
theorem tm3_223 : Cond.code ⟨"KindTablesModel", "cellOf", "(II)I"⟩ prog_7_method_11_code 3 (some .int) ∈ tw := tw_3 (i := 223) rfl rfl
theorem tm3_224 : Cond.methodLink "KindTablesLaw" 121 ⟨"KindTablesModel", "votes", "(II)I"⟩ ∈ tw := tw_3 (i := 224) rfl rfl
theorem tm3_225 : Cond.instanceMethod ⟨"KindTablesModel", "votes", "(II)I"⟩ ∈ tw := tw_3 (i := 225) rfl rfl
theorem tm3_226 : Cond.selects "KindTablesModel" ⟨"KindTablesModel", "votes", "(II)I"⟩ ⟨"KindTablesModel", "votes", "(II)I"⟩ ∈ tw := tw_3 (i := 226) rfl rfl
theorem tm3_227 : Cond.code ⟨"KindTablesModel", "votes", "(II)I"⟩ prog_7_method_14_code 3 (some .int) ∈ tw := tw_3 (i := 227) rfl rfl
theorem tm3_228 : Cond.methodLink "KindTablesModel" 77 ⟨"KindTablesModel", "votesOf", "(IIII)I"⟩ ∈ tw := tw_3 (i := 228) rfl rfl
theorem tm3_230 : Cond.instanceMethod ⟨"KindTablesModel", "votesOf", "(IIII)I"⟩ ∈ tw := tw_3 (i := 230) rfl rfl
theorem tm3_231 : Cond.code ⟨"KindTablesModel", "votesOf", "(IIII)I"⟩ prog_7_method_13_code 8 (some .int) ∈ tw := tw_3 (i := 231) rfl rfl
theorem tm3_232 : Cond.methodLink "KindTablesLaw" 124 ⟨"KindTablesModel", "tell", "(I)I"⟩ ∈ tw := tw_3 (i := 232) rfl rfl
theorem tm3_233 : Cond.instanceMethod ⟨"KindTablesModel", "tell", "(I)I"⟩ ∈ tw := tw_3 (i := 233) rfl rfl
theorem tm3_234 : Cond.selects "KindTablesModel" ⟨"KindTablesModel", "tell", "(I)I"⟩ ⟨"KindTablesModel", "tell", "(I)I"⟩ ∈ tw := tw_3 (i := 234) rfl rfl
theorem tm3_235 : Cond.code ⟨"KindTablesModel", "tell", "(I)I"⟩ prog_7_method_16_code 2 (some .int) ∈ tw := tw_3 (i := 235) rfl rfl
theorem tm3_236 : Cond.methodLink "KindTablesModel" 81 ⟨"KindTablesModel", "toldBy", "(III)I"⟩ ∈ tw := tw_3 (i := 236) rfl rfl
theorem tm3_238 : Cond.instanceMethod ⟨"KindTablesModel", "toldBy", "(III)I"⟩ ∈ tw := tw_3 (i := 238) rfl rfl
theorem tm3_239 : Cond.code ⟨"KindTablesModel", "toldBy", "(III)I"⟩ prog_7_method_15_code 8 (some .int) ∈ tw := tw_3 (i := 239) rfl rfl
theorem tm4_0 : Cond.methodLink "KindTablesLaw" 127 ⟨"KindTablesModel", "bound", "(I)I"⟩ ∈ tw := tw_4 (i := 0) rfl rfl
theorem tm4_1 : Cond.instanceMethod ⟨"KindTablesModel", "bound", "(I)I"⟩ ∈ tw := tw_4 (i := 1) rfl rfl
theorem tm4_2 : Cond.selects "KindTablesModel" ⟨"KindTablesModel", "bound", "(I)I"⟩ ⟨"KindTablesModel", "bound", "(I)I"⟩ ∈ tw := tw_4 (i := 2) rfl rfl
theorem tm4_3 : Cond.code ⟨"KindTablesModel", "bound", "(I)I"⟩ prog_7_method_17_code 3 (some .int) ∈ tw := tw_4 (i := 3) rfl rfl
theorem tm4_4 : Cond.methodLink "KindTablesLaw" 130 ⟨"KindTablesModel", "prefer", "(I)I"⟩ ∈ tw := tw_4 (i := 4) rfl rfl
theorem tm4_5 : Cond.instanceMethod ⟨"KindTablesModel", "prefer", "(I)I"⟩ ∈ tw := tw_4 (i := 5) rfl rfl
theorem tm4_6 : Cond.selects "KindTablesModel" ⟨"KindTablesModel", "prefer", "(I)I"⟩ ⟨"KindTablesModel", "prefer", "(I)I"⟩ ∈ tw := tw_4 (i := 6) rfl rfl
theorem tm4_7 : Cond.code ⟨"KindTablesModel", "prefer", "(I)I"⟩ prog_7_method_18_code 4 (some .int) ∈ tw := tw_4 (i := 7) rfl rfl
theorem tm4_8 : Cond.methodLink "KindTablesLaw" 133 ⟨"KindTablesModel", "wrong", "(III)I"⟩ ∈ tw := tw_4 (i := 8) rfl rfl
theorem tm4_9 : Cond.instanceMethod ⟨"KindTablesModel", "wrong", "(III)I"⟩ ∈ tw := tw_4 (i := 9) rfl rfl
theorem tm4_10 : Cond.selects "KindTablesModel" ⟨"KindTablesModel", "wrong", "(III)I"⟩ ⟨"KindTablesModel", "wrong", "(III)I"⟩ ∈ tw := tw_4 (i := 10) rfl rfl
theorem tm4_11 : Cond.code ⟨"KindTablesModel", "wrong", "(III)I"⟩ prog_7_method_21_code 7 (some .int) ∈ tw := tw_4 (i := 11) rfl rfl
theorem tm4_12 : Cond.methodLink "KindTablesModel" 89 ⟨"KindTablesModel", "part", "(JJI)J"⟩ ∈ tw := tw_4 (i := 12) rfl rfl
theorem tm4_13 : Cond.static ⟨"KindTablesModel", "part", "(JJI)J"⟩ ∈ tw := tw_4 (i := 13) rfl rfl
theorem tm4_14 : Cond.code ⟨"KindTablesModel", "part", "(JJI)J"⟩ prog_7_method_20_code 7 (some .long) ∈ tw := tw_4 (i := 14) rfl rfl
theorem tm4_15 : Cond.methodLink "KindTablesModel" 85 ⟨"KindTablesModel", "divisor", "(JJ)J"⟩ ∈ tw := tw_4 (i := 15) rfl rfl
theorem tm4_16 : Cond.static ⟨"KindTablesModel", "divisor", "(JJ)J"⟩ ∈ tw := tw_4 (i := 16) rfl rfl
theorem tm4_17 : Cond.code ⟨"KindTablesModel", "divisor", "(JJ)J"⟩ prog_7_method_19_code 10 (some .long) ∈ tw := tw_4 (i := 17) rfl rfl
theorem tm4_18 : Cond.methodLink "KindTablesLaw" 136 ⟨"KindTablesModel", "right", "(I)I"⟩ ∈ tw := tw_4 (i := 18) rfl rfl
theorem tm4_19 : Cond.instanceMethod ⟨"KindTablesModel", "right", "(I)I"⟩ ∈ tw := tw_4 (i := 19) rfl rfl
theorem tm4_20 : Cond.selects "KindTablesModel" ⟨"KindTablesModel", "right", "(I)I"⟩ ⟨"KindTablesModel", "right", "(I)I"⟩ ∈ tw := tw_4 (i := 20) rfl rfl
theorem tm4_21 : Cond.code ⟨"KindTablesModel", "right", "(I)I"⟩ prog_7_method_23_code 2 (some .int) ∈ tw := tw_4 (i := 21) rfl rfl
theorem tm4_22 : Cond.methodLink "KindTablesModel" 93 ⟨"KindTablesModel", "rightOf", "(I)I"⟩ ∈ tw := tw_4 (i := 22) rfl rfl
theorem tm4_24 : Cond.instanceMethod ⟨"KindTablesModel", "rightOf", "(I)I"⟩ ∈ tw := tw_4 (i := 24) rfl rfl
theorem tm4_25 : Cond.code ⟨"KindTablesModel", "rightOf", "(I)I"⟩ prog_7_method_22_code 4 (some .int) ∈ tw := tw_4 (i := 25) rfl rfl
theorem tm4_26 : Cond.methodLink "KindTablesLaw" 139 ⟨"KindTablesModel", "best", "(I)I"⟩ ∈ tw := tw_4 (i := 26) rfl rfl
theorem tm4_27 : Cond.instanceMethod ⟨"KindTablesModel", "best", "(I)I"⟩ ∈ tw := tw_4 (i := 27) rfl rfl
theorem tm4_28 : Cond.selects "KindTablesModel" ⟨"KindTablesModel", "best", "(I)I"⟩ ⟨"KindTablesModel", "best", "(I)I"⟩ ∈ tw := tw_4 (i := 28) rfl rfl
theorem tm4_29 : Cond.code ⟨"KindTablesModel", "best", "(I)I"⟩ prog_7_method_24_code 6 (some .int) ∈ tw := tw_4 (i := 29) rfl rfl
theorem tm4_30 : Cond.methodLink "KindTablesLaw" 143 ⟨"KindTablesModel", "unknown", "()I"⟩ ∈ tw := tw_4 (i := 30) rfl rfl
theorem tm4_31 : Cond.instanceMethod ⟨"KindTablesModel", "unknown", "()I"⟩ ∈ tw := tw_4 (i := 31) rfl rfl
theorem tm4_32 : Cond.selects "KindTablesModel" ⟨"KindTablesModel", "unknown", "()I"⟩ ⟨"KindTablesModel", "unknown", "()I"⟩ ∈ tw := tw_4 (i := 32) rfl rfl
theorem tm4_33 : Cond.code ⟨"KindTablesModel", "unknown", "()I"⟩ prog_7_method_25_code 3 (some .int) ∈ tw := tw_4 (i := 33) rfl rfl
theorem tm4_34 : Cond.methodLink "KindTablesLaw" 146 ⟨"KindTablesModel", "mixed", "(II)I"⟩ ∈ tw := tw_4 (i := 34) rfl rfl
theorem tm4_35 : Cond.instanceMethod ⟨"KindTablesModel", "mixed", "(II)I"⟩ ∈ tw := tw_4 (i := 35) rfl rfl
theorem tm4_36 : Cond.selects "KindTablesModel" ⟨"KindTablesModel", "mixed", "(II)I"⟩ ⟨"KindTablesModel", "mixed", "(II)I"⟩ ∈ tw := tw_4 (i := 36) rfl rfl
theorem tm4_37 : Cond.code ⟨"KindTablesModel", "mixed", "(II)I"⟩ prog_7_method_26_code 7 (some .int) ∈ tw := tw_4 (i := 37) rfl rfl
theorem tm4_38 : Cond.methodLink "KindTablesLaw" 149 ⟨"KindTablesModel", "groups", "(I)I"⟩ ∈ tw := tw_4 (i := 38) rfl rfl
theorem tm4_39 : Cond.instanceMethod ⟨"KindTablesModel", "groups", "(I)I"⟩ ∈ tw := tw_4 (i := 39) rfl rfl
theorem tm4_40 : Cond.selects "KindTablesModel" ⟨"KindTablesModel", "groups", "(I)I"⟩ ⟨"KindTablesModel", "groups", "(I)I"⟩ ∈ tw := tw_4 (i := 40) rfl rfl
theorem tm4_41 : Cond.code ⟨"KindTablesModel", "groups", "(I)I"⟩ prog_7_method_28_code 7 (some .int) ∈ tw := tw_4 (i := 41) rfl rfl
theorem tm4_42 : Cond.methodLink "KindTablesModel" 97 ⟨"KindTablesModel", "alike", "(III)Z"⟩ ∈ tw := tw_4 (i := 42) rfl rfl
theorem tm4_44 : Cond.instanceMethod ⟨"KindTablesModel", "alike", "(III)Z"⟩ ∈ tw := tw_4 (i := 44) rfl rfl
theorem tm4_45 : Cond.code ⟨"KindTablesModel", "alike", "(III)Z"⟩ prog_7_method_27_code 6 (some .boolean) ∈ tw := tw_4 (i := 45) rfl rfl
theorem tm4_46 : Cond.methodLink "KindTablesLaw" 152 ⟨"KindTablesModel", "nearest", "(II)I"⟩ ∈ tw := tw_4 (i := 46) rfl rfl
theorem tm4_47 : Cond.instanceMethod ⟨"KindTablesModel", "nearest", "(II)I"⟩ ∈ tw := tw_4 (i := 47) rfl rfl
theorem tm4_48 : Cond.selects "KindTablesModel" ⟨"KindTablesModel", "nearest", "(II)I"⟩ ⟨"KindTablesModel", "nearest", "(II)I"⟩ ∈ tw := tw_4 (i := 48) rfl rfl
theorem tm4_49 : Cond.code ⟨"KindTablesModel", "nearest", "(II)I"⟩ prog_7_method_31_code 7 (some .int) ∈ tw := tw_4 (i := 49) rfl rfl
theorem tm4_50 : Cond.methodLink "KindTablesModel" 100 ⟨"KindTablesModel", "apart", "(II)I"⟩ ∈ tw := tw_4 (i := 50) rfl rfl
theorem tm4_52 : Cond.instanceMethod ⟨"KindTablesModel", "apart", "(II)I"⟩ ∈ tw := tw_4 (i := 52) rfl rfl
theorem tm4_53 : Cond.code ⟨"KindTablesModel", "apart", "(II)I"⟩ prog_7_method_29_code 6 (some .int) ∈ tw := tw_4 (i := 53) rfl rfl
theorem tm4_54 : Cond.methodLink "KindTablesModel" 103 ⟨"KindTablesModel", "isNear", "(II)Z"⟩ ∈ tw := tw_4 (i := 54) rfl rfl
theorem tm4_56 : Cond.instanceMethod ⟨"KindTablesModel", "isNear", "(II)Z"⟩ ∈ tw := tw_4 (i := 56) rfl rfl
theorem tm4_57 : Cond.code ⟨"KindTablesModel", "isNear", "(II)Z"⟩ prog_7_method_30_code 3 (some .boolean) ∈ tw := tw_4 (i := 57) rfl rfl
theorem tm4_58 : Cond.methodLink "KindTablesLaw" 155 ⟨"KindTablesModel", "distance", "(II)I"⟩ ∈ tw := tw_4 (i := 58) rfl rfl
theorem tm4_59 : Cond.instanceMethod ⟨"KindTablesModel", "distance", "(II)I"⟩ ∈ tw := tw_4 (i := 59) rfl rfl
theorem tm4_60 : Cond.selects "KindTablesModel" ⟨"KindTablesModel", "distance", "(II)I"⟩ ⟨"KindTablesModel", "distance", "(II)I"⟩ ∈ tw := tw_4 (i := 60) rfl rfl
theorem tm4_61 : Cond.code ⟨"KindTablesModel", "distance", "(II)I"⟩ prog_7_method_32_code 3 (some .int) ∈ tw := tw_4 (i := 61) rfl rfl
theorem tm4_62 : Cond.methodLink "KindTablesLaw" 158 ⟨"KindTablesModel", "haul", "(II)I"⟩ ∈ tw := tw_4 (i := 62) rfl rfl
theorem tm4_63 : Cond.instanceMethod ⟨"KindTablesModel", "haul", "(II)I"⟩ ∈ tw := tw_4 (i := 63) rfl rfl
theorem tm4_64 : Cond.selects "KindTablesModel" ⟨"KindTablesModel", "haul", "(II)I"⟩ ⟨"KindTablesModel", "haul", "(II)I"⟩ ∈ tw := tw_4 (i := 64) rfl rfl
theorem tm4_65 : Cond.code ⟨"KindTablesModel", "haul", "(II)I"⟩ prog_7_method_33_code 3 (some .int) ∈ tw := tw_4 (i := 65) rfl rfl
theorem tm4_66 : Cond.methodLink "KindTablesLaw" 161 ⟨"KindTablesModel", "grams", "(III)I"⟩ ∈ tw := tw_4 (i := 66) rfl rfl
theorem tm4_67 : Cond.instanceMethod ⟨"KindTablesModel", "grams", "(III)I"⟩ ∈ tw := tw_4 (i := 67) rfl rfl
theorem tm4_68 : Cond.selects "KindTablesModel" ⟨"KindTablesModel", "grams", "(III)I"⟩ ⟨"KindTablesModel", "grams", "(III)I"⟩ ∈ tw := tw_4 (i := 68) rfl rfl
theorem tm4_69 : Cond.code ⟨"KindTablesModel", "grams", "(III)I"⟩ prog_7_method_34_code 5 (some .int) ∈ tw := tw_4 (i := 69) rfl rfl
theorem tm4_70 : Cond.methodLink "KindTablesLaw" 165 ⟨"KindTablesModel", "share", "(IIII)J"⟩ ∈ tw := tw_4 (i := 70) rfl rfl
theorem tm4_71 : Cond.instanceMethod ⟨"KindTablesModel", "share", "(IIII)J"⟩ ∈ tw := tw_4 (i := 71) rfl rfl
theorem tm4_72 : Cond.selects "KindTablesModel" ⟨"KindTablesModel", "share", "(IIII)J"⟩ ⟨"KindTablesModel", "share", "(IIII)J"⟩ ∈ tw := tw_4 (i := 72) rfl rfl
theorem tm4_73 : Cond.code ⟨"KindTablesModel", "share", "(IIII)J"⟩ prog_7_method_38_code 13 (some .long) ∈ tw := tw_4 (i := 73) rfl rfl
theorem tm4_74 : Cond.methodLink "KindTablesModel" 118 ⟨"KindTablesModel", "nearHaul", "(III)I"⟩ ∈ tw := tw_4 (i := 74) rfl rfl
theorem tm4_76 : Cond.instanceMethod ⟨"KindTablesModel", "nearHaul", "(III)I"⟩ ∈ tw := tw_4 (i := 76) rfl rfl
theorem tm4_77 : Cond.code ⟨"KindTablesModel", "nearHaul", "(III)I"⟩ prog_7_method_37_code 6 (some .int) ∈ tw := tw_4 (i := 77) rfl rfl
theorem tm4_78 : Cond.methodLink "KindTablesModel" 110 ⟨"KindTablesModel", "all", "(I)J"⟩ ∈ tw := tw_4 (i := 78) rfl rfl
theorem tm4_80 : Cond.instanceMethod ⟨"KindTablesModel", "all", "(I)J"⟩ ∈ tw := tw_4 (i := 80) rfl rfl
theorem tm4_81 : Cond.code ⟨"KindTablesModel", "all", "(I)J"⟩ prog_7_method_35_code 5 (some .long) ∈ tw := tw_4 (i := 81) rfl rfl
theorem tm4_82 : Cond.methodLink "KindTablesModel" 114 ⟨"KindTablesModel", "square", "(III)J"⟩ ∈ tw := tw_4 (i := 82) rfl rfl
theorem tm4_84 : Cond.instanceMethod ⟨"KindTablesModel", "square", "(III)J"⟩ ∈ tw := tw_4 (i := 84) rfl rfl
theorem tm4_85 : Cond.code ⟨"KindTablesModel", "square", "(III)J"⟩ prog_7_method_36_code 4 (some .long) ∈ tw := tw_4 (i := 85) rfl rfl
theorem tm4_86 : Cond.methodLink "KindTablesLaw" 168 ⟨"KindTablesModel", "law", "(III)I"⟩ ∈ tw := tw_4 (i := 86) rfl rfl
theorem tm4_87 : Cond.instanceMethod ⟨"KindTablesModel", "law", "(III)I"⟩ ∈ tw := tw_4 (i := 87) rfl rfl
theorem tm4_88 : Cond.selects "KindTablesModel" ⟨"KindTablesModel", "law", "(III)I"⟩ ⟨"KindTablesModel", "law", "(III)I"⟩ ∈ tw := tw_4 (i := 88) rfl rfl
theorem tm4_89 : Cond.code ⟨"KindTablesModel", "law", "(III)I"⟩ prog_7_method_39_code 6 (some .int) ∈ tw := tw_4 (i := 89) rfl rfl
theorem tm4_90 : Cond.methodLink "KindTablesLaw" 171 ⟨"KindTablesModel", "strength", "(II)I"⟩ ∈ tw := tw_4 (i := 90) rfl rfl
theorem tm4_91 : Cond.instanceMethod ⟨"KindTablesModel", "strength", "(II)I"⟩ ∈ tw := tw_4 (i := 91) rfl rfl
theorem tm4_92 : Cond.selects "KindTablesModel" ⟨"KindTablesModel", "strength", "(II)I"⟩ ⟨"KindTablesModel", "strength", "(II)I"⟩ ∈ tw := tw_4 (i := 92) rfl rfl
theorem tm4_93 : Cond.code ⟨"KindTablesModel", "strength", "(II)I"⟩ prog_7_method_41_code 3 (some .int) ∈ tw := tw_4 (i := 93) rfl rfl
theorem tm4_94 : Cond.methodLink "KindTablesModel" 121 ⟨"KindTablesModel", "strengthAt", "(II)I"⟩ ∈ tw := tw_4 (i := 94) rfl rfl
theorem tm4_96 : Cond.instanceMethod ⟨"KindTablesModel", "strengthAt", "(II)I"⟩ ∈ tw := tw_4 (i := 96) rfl rfl
theorem tm4_97 : Cond.code ⟨"KindTablesModel", "strengthAt", "(II)I"⟩ prog_7_method_40_code 8 (some .int) ∈ tw := tw_4 (i := 97) rfl rfl
theorem tm4_98 : Cond.methodLink "KindTablesLaw" 174 ⟨"KindTablesModel", "length", "(II)I"⟩ ∈ tw := tw_4 (i := 98) rfl rfl
theorem tm4_99 : Cond.instanceMethod ⟨"KindTablesModel", "length", "(II)I"⟩ ∈ tw := tw_4 (i := 99) rfl rfl
theorem tm4_100 : Cond.selects "KindTablesModel" ⟨"KindTablesModel", "length", "(II)I"⟩ ⟨"KindTablesModel", "length", "(II)I"⟩ ∈ tw := tw_4 (i := 100) rfl rfl
theorem tm4_101 : Cond.code ⟨"KindTablesModel", "length", "(II)I"⟩ prog_7_method_42_code 5 (some .int) ∈ tw := tw_4 (i := 101) rfl rfl
theorem tm4_102 : Cond.methodLink "KindTablesLaw" 178 ⟨"KindTablesModel", "count", "(I)I"⟩ ∈ tw := tw_4 (i := 102) rfl rfl
theorem tm4_103 : Cond.instanceMethod ⟨"KindTablesModel", "count", "(I)I"⟩ ∈ tw := tw_4 (i := 103) rfl rfl
theorem tm4_104 : Cond.selects "KindTablesModel" ⟨"KindTablesModel", "count", "(I)I"⟩ ⟨"KindTablesModel", "count", "(I)I"⟩ ∈ tw := tw_4 (i := 104) rfl rfl
theorem tm4_105 : Cond.code ⟨"KindTablesModel", "count", "(I)I"⟩ prog_7_method_43_code 4 (some .int) ∈ tw := tw_4 (i := 105) rfl rfl
theorem tm4_106 : Cond.arrayClass .long ∈ tw := tw_4 (i := 106) rfl rfl
theorem tm4_107 : Cond.sameMethod "java/lang/Throwable" "java/lang/Throwable" "fillInStackTrace" "(I)Ljava/lang/Throwable;" ∈ tw := tw_4 (i := 107) rfl rfl
theorem tp_0 : Cond.selects "KindTables$Teller" ⟨"KindTables$Teller", "toldBy", "(III)I"⟩ ⟨"KindTables$Teller", "toldBy", "(III)I"⟩ ∈ tw := tw_p (i := 0) rfl rfl
theorem tp_1 : Cond.selects "KindTables$Teller" ⟨"KindTables$Teller", "takeVotes", "(III)V"⟩ ⟨"KindTables$Teller", "takeVotes", "(III)V"⟩ ∈ tw := tw_p (i := 1) rfl rfl
theorem tp_2 : Cond.selects "KindTables" ⟨"KindTables", "needKindOrNone", "(I)V"⟩ ⟨"KindTables", "needKindOrNone", "(I)V"⟩ ∈ tw := tw_p (i := 2) rfl rfl
theorem tp_3 : Cond.selects "KindTables" ⟨"KindTables", "needKind", "(I)V"⟩ ⟨"KindTables", "needKind", "(I)V"⟩ ∈ tw := tw_p (i := 3) rfl rfl
theorem tp_4 : Cond.selects "java/lang/Throwable" ⟨"java/lang/Throwable", "fillInStackTrace", "(I)Ljava/lang/Throwable;"⟩ ⟨"java/lang/Throwable", "fillInStackTrace", "(I)Ljava/lang/Throwable;"⟩ ∈ tw := tw_p (i := 4) rfl rfl
theorem tp_5 : Cond.selects "KindTables" ⟨"KindTables", "needExample", "(I)V"⟩ ⟨"KindTables", "needExample", "(I)V"⟩ ∈ tw := tw_p (i := 5) rfl rfl
theorem tp_6 : Cond.selects "KindTables" ⟨"KindTables", "needFeature", "(I)V"⟩ ⟨"KindTables", "needFeature", "(I)V"⟩ ∈ tw := tw_p (i := 6) rfl rfl
theorem tp_7 : Cond.selects "KindTables$Teller" ⟨"KindTables$Teller", "placeOf", "(I)I"⟩ ⟨"KindTables$Teller", "placeOf", "(I)I"⟩ ∈ tw := tw_p (i := 7) rfl rfl
theorem tp_8 : Cond.selects "KindTables$Teller" ⟨"KindTables$Teller", "countBefore", "(I)I"⟩ ⟨"KindTables$Teller", "countBefore", "(I)I"⟩ ∈ tw := tw_p (i := 8) rfl rfl
theorem tp_9 : Cond.selects "KindTables$Examples" ⟨"KindTables$Examples", "joinGroups", "(II)V"⟩ ⟨"KindTables$Examples", "joinGroups", "(II)V"⟩ ∈ tw := tw_p (i := 9) rfl rfl
theorem tp_10 : Cond.selects "KindTables$Examples" ⟨"KindTables$Examples", "isCandidate", "(II)Z"⟩ ⟨"KindTables$Examples", "isCandidate", "(II)Z"⟩ ∈ tw := tw_p (i := 10) rfl rfl
theorem tp_11 : Cond.selects "KindTables$Examples" ⟨"KindTables$Examples", "countNearer", "(II)I"⟩ ⟨"KindTables$Examples", "countNearer", "(II)I"⟩ ∈ tw := tw_p (i := 11) rfl rfl
theorem tp_12 : Cond.selects "KindTables" ⟨"KindTables", "needHaul", "(I)V"⟩ ⟨"KindTables", "needHaul", "(I)V"⟩ ∈ tw := tw_p (i := 12) rfl rfl
theorem tp_13 : Cond.selects "KindTables$Hauls" ⟨"KindTables$Hauls", "nearestFilled", "(III)I"⟩ ⟨"KindTables$Hauls", "nearestFilled", "(III)I"⟩ ∈ tw := tw_p (i := 13) rfl rfl
theorem tp_14 : Cond.selects "KindTables$Hauls" ⟨"KindTables$Hauls", "allGrams", "(I)I"⟩ ⟨"KindTables$Hauls", "allGrams", "(I)I"⟩ ∈ tw := tw_p (i := 14) rfl rfl
theorem tp_15 : Cond.selects "KindTables$Hauls" ⟨"KindTables$Hauls", "squareTo", "(III)I"⟩ ⟨"KindTables$Hauls", "squareTo", "(III)I"⟩ ∈ tw := tw_p (i := 15) rfl rfl
theorem tp_16 : Cond.selects "KindTables$Law" ⟨"KindTables$Law", "strengthBefore", "(II)I"⟩ ⟨"KindTables$Law", "strengthBefore", "(II)I"⟩ ∈ tw := tw_p (i := 16) rfl rfl
theorem tp_17 : Cond.selects "KindTables$Law" ⟨"KindTables$Law", "leastLengthBefore", "(II)I"⟩ ⟨"KindTables$Law", "leastLengthBefore", "(II)I"⟩ ∈ tw := tw_p (i := 17) rfl rfl
theorem tp_18 : Cond.selects "KindTablesModel" ⟨"KindTablesModel", "isKind", "(I)Z"⟩ ⟨"KindTablesModel", "isKind", "(I)Z"⟩ ∈ tw := tw_p (i := 18) rfl rfl
theorem tp_19 : Cond.selects "KindTablesModel" ⟨"KindTablesModel", "isExample", "(I)Z"⟩ ⟨"KindTablesModel", "isExample", "(I)Z"⟩ ∈ tw := tw_p (i := 19) rfl rfl
theorem tp_20 : Cond.selects "KindTablesModel" ⟨"KindTablesModel", "isFeature", "(I)Z"⟩ ⟨"KindTablesModel", "isFeature", "(I)Z"⟩ ∈ tw := tw_p (i := 20) rfl rfl
theorem tp_21 : Cond.selects "KindTablesModel" ⟨"KindTablesModel", "cellOf", "(II)I"⟩ ⟨"KindTablesModel", "cellOf", "(II)I"⟩ ∈ tw := tw_p (i := 21) rfl rfl
theorem tp_22 : Cond.selects "KindTablesModel" ⟨"KindTablesModel", "votesOf", "(IIII)I"⟩ ⟨"KindTablesModel", "votesOf", "(IIII)I"⟩ ∈ tw := tw_p (i := 22) rfl rfl
theorem tp_23 : Cond.selects "KindTablesModel" ⟨"KindTablesModel", "toldBy", "(III)I"⟩ ⟨"KindTablesModel", "toldBy", "(III)I"⟩ ∈ tw := tw_p (i := 23) rfl rfl
theorem tp_24 : Cond.selects "KindTablesModel" ⟨"KindTablesModel", "rightOf", "(I)I"⟩ ⟨"KindTablesModel", "rightOf", "(I)I"⟩ ∈ tw := tw_p (i := 24) rfl rfl
theorem tp_25 : Cond.selects "KindTablesModel" ⟨"KindTablesModel", "alike", "(III)Z"⟩ ⟨"KindTablesModel", "alike", "(III)Z"⟩ ∈ tw := tw_p (i := 25) rfl rfl
theorem tp_26 : Cond.selects "KindTablesModel" ⟨"KindTablesModel", "apart", "(II)I"⟩ ⟨"KindTablesModel", "apart", "(II)I"⟩ ∈ tw := tw_p (i := 26) rfl rfl
theorem tp_27 : Cond.selects "KindTablesModel" ⟨"KindTablesModel", "isNear", "(II)Z"⟩ ⟨"KindTablesModel", "isNear", "(II)Z"⟩ ∈ tw := tw_p (i := 27) rfl rfl
theorem tp_28 : Cond.selects "KindTablesModel" ⟨"KindTablesModel", "nearHaul", "(III)I"⟩ ⟨"KindTablesModel", "nearHaul", "(III)I"⟩ ∈ tw := tw_p (i := 28) rfl rfl
theorem tp_29 : Cond.selects "KindTablesModel" ⟨"KindTablesModel", "all", "(I)J"⟩ ⟨"KindTablesModel", "all", "(I)J"⟩ ∈ tw := tw_p (i := 29) rfl rfl
theorem tp_30 : Cond.selects "KindTablesModel" ⟨"KindTablesModel", "square", "(III)J"⟩ ⟨"KindTablesModel", "square", "(III)J"⟩ ∈ tw := tw_p (i := 30) rfl rfl
theorem tp_31 : Cond.selects "KindTablesModel" ⟨"KindTablesModel", "strengthAt", "(II)I"⟩ ⟨"KindTablesModel", "strengthAt", "(II)I"⟩ ∈ tw := tw_p (i := 31) rfl rfl
