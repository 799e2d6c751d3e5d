/-- what the making of arrays of arrays, and of arrays of laws, asks of the tables -/
def jA (U : State) : Prop := va_AOA .int U ∧ va_AO "KindTables$Law" U
theorem jA.moved {u U : State} (hvm : u.vm.Alike U.vm) (h : jA u) : jA U := ⟨over_moved (a := #[]) (a' := #[]) hvm h.1, va_AO.moved hvm h.2⟩
/-- a constructor -/
def jr_Kv {S : Type} (l : Launch) (y : MethodName) (wy : List Cond) (rm : Room) (av : List Value) (D : va_G) (cl : List vw_C) (tys : List (ClassId × FieldType)) (ws : va_W) (wf : S → va_W) (post : S → Prop) (mc ms : Nat) : Prop :=
  ∀ sz : Nat, Met l y wy rm (va_Pc av (fun U => jr_Pre D cl tys ws sz U ∧ jA U)) (va_Qv post (jr_B D cl tys wf (va_A ws sz)) (va_A ws sz)) mc ms (va_A ws sz)
theorem jr_blindK {D : va_G} {cl : List vw_C} {tys : List (ClassId × FieldType)} {ws : va_W} {sz : Nat} {av : List Value} : FrameBlind (va_Pc av (fun U => jr_Pre D cl tys ws sz U ∧ jA U)) :=
  fun a U g mk q => ⟨q.1, (jr_blind (av := av) a U g mk ⟨q.1, q.2.1⟩).2, jA.moved (u := U) (U := U.calling g mk a) (Vm.Alike.refl U.vm) q.2.2⟩
theorem cl_at {w0 t : va_W} {j : Nat} {e : Nat × va_E} (h : t[j]? = some e) : (w0 ++ t)[w0.length + j]? = some e := by
  rw [List.getElem?_append_right (Nat.le_add_right _ _), Nat.add_sub_cancel_left]; exact h
theorem cl_set {w0 t : va_W} {j : Nat} {e : Nat × va_E} : (w0 ++ t).set (w0.length + j) e = w0 ++ t.set j e := by
  rw [List.set_append, if_neg (by omega), Nat.add_sub_cancel_left]
theorem cl_app {w0 t x : va_W} : (w0 ++ t) ++ x = w0 ++ (t ++ x) := List.append_assoc _ _ _
section JRK
variable {p : Program} {l : Launch} {e : Env} {R : Room} {s : State} {m : MethodId} {args : Array Value} {below : List Frame} {meth : Method} {c : Code} {A : Nat → Prop} {D : va_G} {cl : List vw_C} {nL cells slots : Nat} {Q : State → Prop} {ws : va_W} {pc : Nat} {lv : List (Nat × Value)} {rest : List Value}
variable {cc : ByteArray} {own : String} {Ts : List Cond} {tys : List (ClassId × FieldType)} {S : Type} {wf : S → va_W} {mc ms MC MS : Nat}
theorem jr_oinit (C : jr_C p s m args c cc nL own Ts D cl tys A) {idx a : Nat} (hl : Cond.methodLink own idx Lib.objectInit ∈ Ts) (hi : Cond.instanceMethod Lib.objectInit ∈ Ts) (hc : Cond.code Lib.objectInit ⟨#[0xb1]⟩ 1 none ∈ Ts) (hdg : decode cc pc = .ok (.invokespecial idx, 3)) (hR : 1 ≤ R.frames) (hRl : (rest.map fun v => v.category).sum + 12 ≤ R.locals) (kk : jr_J p l e R s m args below meth c A D cl nL cells slots Q ws (pc + 3) lv rest) : jr_J p l e R s m args below meth c A D cl nL cells slots Q ws pc lv (.ref a :: rest) := fun H locs ls hP hD hS hl9 =>
  W.objInit C.1 C.2.1 C.2.2.2.1 (C.2.2.2.2.1 _ hl) (C.2.2.2.2.1 _ hi) (C.2.2.2.2.1 _ hc) rfl (by rw [C.2.2.1]; exact hl9.1) rfl hdg hR (by show 2 * 0 + _ + 12 ≤ _; omega) (kk H locs ls hP hD hS hl9)
theorem jr_new (C : jr_C p s m args c cc nL own Ts D cl tys A) {Cn : String} {T : u_T} {N ci index : Nat} {fs : List Value} (hdg : decode cc pc = .ok (.new index, 3)) (hin : ∀ w ∈ u_ws Cn T N, w ∈ Ts) (ty : Nat → FieldType) (hty : ∀ k, k < N → parseFieldDescriptor (T k).2.2.1 = some (ty k)) (hk : Cond.classLink own index Cn ∈ Ts) (hi : Cond.instantiable Cn N ∈ Ts) (hini : Cond.initialized Cn ∈ Ts) (hc : cl[ci]? = some (Cn, T, N)) (hfs : ∀ j, j < N → defaultValue (ty j) = vp_V fs j) (hcells : cells + 1 ≤ R.cells) (hslots : slots + N ≤ R.slots)
    (kk : ∀ q : Nat, jr_J p l e R s m args below meth c A D cl nL (cells + 1) (slots + N) Q (ws ++ [(q, .inr (ci, fs))]) (pc + 3) lv (.ref q :: rest)) : jr_J p l e R s m args below meth c A D cl nL cells slots Q ws pc lv rest := fun H locs ls hP hD hS hl9 =>
  va_new C.1 C.2.1 C.2.2.2.2.1 hin ty hty C.2.2.2.1 (C.2.2.2.2.1 _ hk) (C.2.2.2.2.1 _ hi) (C.2.2.2.2.1 _ hini) C.2.2.2.2.2.1 hP hD hS C.2.2.2.2.2.2.1 hc hfs hcells hslots hdg (fun q H1 hP hD hS => kk q H1 locs ls hP hD hS hl9)
theorem jr_same {U : State} {t0 : Nat} {cI cA : ClassId} (hK : va_K D cl tys U) (ht : tys[t0]? = some (cI, .int)) (h2 : va_K D cl (tys ++ [(cA, .int)]) U) : cA = cI := by
  have h1 : U.vm.findClass ("[" ++ FieldType.int.toString) = some cI := (hK.2 t0 _ ht).2
  have h3 : U.vm.findClass ("[" ++ FieldType.int.toString) = some cA := (h2.2 tys.length (cA, .int) (by simp)).2
  exact Option.some.inj (h3.symm.trans h1)
theorem jr_sameJ {U : State} {t0 : Nat} {cI cA : ClassId} (hK : va_K D cl tys U) (ht : tys[t0]? = some (cI, .long)) (h2 : va_K D cl (tys ++ [(cA, .long)]) U) : cA = cI := by
  have h1 : U.vm.findClass ("[" ++ FieldType.long.toString) = some cI := (hK.2 t0 _ ht).2
  have h3 : U.vm.findClass ("[" ++ FieldType.long.toString) = some cA := (h2.2 tys.length (cA, .long) (by simp)).2
  exact Option.some.inj (h3.symm.trans h1)
theorem jr_sameA {U : State} {t0 : Nat} {cI cA : ClassId} {t : FieldType} (hK : va_K D cl tys U) (ht : tys[t0]? = some (cI, .array t)) (h2 : va_K D cl (tys ++ [(cA, .array t)]) U) : cA = cI := by
  have h1 : U.vm.findClass ("[" ++ (FieldType.array t).toString) = some cI := (hK.2 t0 _ ht).2
  have h3 : U.vm.findClass ("[" ++ (FieldType.array t).toString) = some cA := (h2.2 tys.length (cA, .array t) (by simp)).2
  exact Option.some.inj (h3.symm.trans h1)
theorem jr_sameO {U : State} {t0 : Nat} {cI cA : ClassId} {Cn : String} (hK : va_K D cl tys U) (ht : tys[t0]? = some (cI, .object Cn)) (h2 : va_K D cl (tys ++ [(cA, .object Cn)]) U) : cA = cI := by
  obtain ⟨-, -, -, -, -, h1⟩ := (hK.2 t0 _ ht).2
  obtain ⟨-, -, -, -, -, h3⟩ := (h2.2 tys.length (cA, .object Cn) (by simp)).2
  exact Option.some.inj (h3.symm.trans h1)
theorem jr_newI (C : jr_C p s m args c cc nL own Ts D cl tys A) {cI : ClassId} {n : Int32} {N9 : Nat} (hdg : decode cc pc = .ok (.newarray .int, 2)) (ht : tys[0]? = some (cI, .int)) (ha : Cond.arrayClass .int ∈ Ts) (hn : ¬ n < 0) (hN : n.toNatClampNeg = N9) (hb : N9 ≤ 1000) (hcells : cells + 1 ≤ R.cells) (hslots : slots + N9 ≤ R.slots)
    (kk : ∀ q : Nat, jr_J p l e R s m args below meth c A D cl nL (cells + 1) (slots + N9) Q (ws ++ [(q, .inl (cI, N9, .inl (fun _ => 0)))]) (pc + 2) lv (.ref q :: rest)) : jr_J p l e R s m args below meth c A D cl nL cells slots Q ws pc lv (.int n :: rest) := fun H locs ls hP hD hS hl9 =>
  va_newa (a0 := (N9, .inl (fun _ => 0))) C.1 C.2.1 (atype := .int) (C.2.2.2.2.1 _ ha) rfl C.2.2.2.2.2.1 hP hD hS C.2.2.2.2.2.2.1 (fun cA => rfl) hn hN (by show N9 * 4 ≤ _; omega) hcells hslots hdg (fun q cA H1 hK hP hD hS => by
    have e := jr_same C.2.2.2.2.2.1 ht hK
    subst e
    exact kk q H1 locs ls hP hD hS hl9)
theorem jr_newJ (C : jr_C p s m args c cc nL own Ts D cl tys A) {cJ : ClassId} {n : Int32} {N9 : Nat} (hdg : decode cc pc = .ok (.newarray .long, 2)) (ht : tys[3]? = some (cJ, .long)) (ha : Cond.arrayClass .long ∈ Ts) (hn : ¬ n < 0) (hN : n.toNatClampNeg = N9) (hb : N9 ≤ 1000) (hcells : cells + 1 ≤ R.cells) (hslots : slots + N9 ≤ R.slots)
    (kk : ∀ q : Nat, jr_J p l e R s m args below meth c A D cl nL (cells + 1) (slots + N9) Q (ws ++ [(q, .inl (cJ, N9, .inr (.inl (fun _ => 0))))]) (pc + 2) lv (.ref q :: rest)) : jr_J p l e R s m args below meth c A D cl nL cells slots Q ws pc lv (.int n :: rest) := fun H locs ls hP hD hS hl9 =>
  va_newa (a0 := (N9, .inr (.inl (fun _ => 0)))) C.1 C.2.1 (atype := .long) (C.2.2.2.2.1 _ ha) rfl C.2.2.2.2.2.1 hP hD hS C.2.2.2.2.2.2.1 (fun cA => rfl) hn hN (by show N9 * 8 ≤ _; omega) hcells hslots hdg (fun q cA H1 hK hP hD hS => by
    have e := jr_sameJ C.2.2.2.2.2.1 ht hK
    subst e
    exact kk q H1 locs ls hP hD hS hl9)
theorem jr_newL (C : jr_C p s m args c cc nL own Ts D cl tys A) {cL : ClassId} {n : Int32} {N9 index : Nat} {Cn : String} (hdg : decode cc pc = .ok (.anewarray index, 3)) (ht : tys[2]? = some (cL, .object Cn)) (hk : Cond.classLink own index Cn ∈ Ts) (hov : va_AO Cn s) (hn : ¬ n < 0) (hN : n.toNatClampNeg = N9) (hb : N9 ≤ 1000) (hcells : cells + 1 ≤ R.cells) (hslots : slots + N9 ≤ R.slots)
    (kk : ∀ q : Nat, jr_J p l e R s m args below meth c A D cl nL (cells + 1) (slots + N9) Q (ws ++ [(q, .inl (cL, N9, .inr (.inr (.inr (.inr (fun _ => none))))))]) (pc + 3) lv (.ref q :: rest)) : jr_J p l e R s m args below meth c A D cl nL cells slots Q ws pc lv (.int n :: rest) := fun H locs ls hP hD hS hl9 =>
  va_newq C.1 C.2.1 C.2.2.2.1 (C.2.2.2.2.1 _ hk) hov C.2.2.2.2.2.1 hP hD hS C.2.2.2.2.2.2.1 hn hN (by omega) hcells hslots hdg (fun q cA H1 hK hP hD hS => by
    have e := jr_sameO C.2.2.2.2.2.1 ht hK
    subst e
    exact kk q H1 locs ls hP hD hS hl9)
theorem jr_mna (C : jr_C p s m args c cc nL own Ts D cl tys A) {cI cII : ClassId} {n k : Int32} {N9 K9 index : Nat} (hdg : decode cc pc = .ok (.multianewarray index 2, 4)) (ht0 : tys[0]? = some (cI, .int)) (ht1 : tys[1]? = some (cII, .array .int)) (hk9 : Cond.classLink own index "[[I" ∈ Ts) (hov : va_AOA .int s) (ha : Cond.arrayClass .int ∈ Ts) (hn : ¬ n < 0) (hk : ¬ k < 0) (hN : n.toNatClampNeg = N9) (hM : k.toNatClampNeg = K9) (hb : N9 ≤ 1000) (hb2 : K9 ≤ 1000) (hcells : cells + (1 + N9) ≤ R.cells) (hslots : slots + (N9 + N9 * K9) ≤ R.slots)
    (kk : ∀ (q : Nat) (r : Nat → Nat), jr_J p l e R s m args below meth c A D cl nL (cells + 1 + N9) (slots + N9 + N9 * K9) Q (ws ++ ((q, .inl (cII, N9, .inr (.inr (.inr (.inr (fun i => if i < N9 then some (r i) else none)))))) :: (List.range N9).map (fun i => (r i, .inl (cI, K9, .inl (fun _ => 0)))))) (pc + 4) lv (.ref q :: rest)) : jr_J p l e R s m args below meth c A D cl nL cells slots Q ws pc lv (.int k :: .int n :: rest) := by
  intro H locs ls hP hD hS hl9
  have hcy : s.vm.findClass (FieldType.array .int).toString = some cI := (C.2.2.2.2.2.1.2 0 _ ht0).2
  refine va_mna (X := ws) (L := []) (f := fun _ => .inl (cI, 0, .inl (fun _ => 0))) (ty := .int) (cy := cI) (z := (K9, .inl (fun _ => 0))) C.1 C.2.1 C.2.2.2.1 (C.2.2.2.2.1 _ hk9) hov (C.2.2.2.2.1 _ ha) hcy C.2.2.2.2.2.1 (by rw [show va_pl [] (fun _ => (.inl (cI, 0, .inl (fun _ => 0)) : va_E)) = [] from rfl, List.append_nil]; exact hP) (by rw [show va_pl [] (fun _ => (.inl (cI, 0, .inl (fun _ => 0)) : va_E)) = [] from rfl, List.append_nil]; exact hD) hS C.2.2.2.2.2.2.1 hn hk hN hM (by omega) (by show K9 * 4 ≤ _; omega) (by omega) rfl rfl hcells hslots (fun c9 => ?_) hdg (fun q r cA H1 hri hrl hK hP hD hS => ?_)
  · show ({ cls := c9, slots := Array.replicate K9 (defaultValue .int), vm := .none } : Cell) = _
    rw [arrV_new]
    rfl
  · have e := jr_sameA C.2.2.2.2.2.1 ht1 hK
    subst e
    have hpl : va_pl ([] ++ (List.range N9).map r) (vr_up (fun _ => (.inl (cI, 0, .inl (fun _ => 0)) : va_E)) ((List.range N9).map r) (.inl (cI, (K9, .inl (fun _ => 0))))) = (List.range N9).map (fun i => ((r i, .inl (cI, K9, .inl (fun _ => 0))) : Nat × va_E)) := by
      unfold va_pl
      rw [List.nil_append, List.map_map]
      apply List.map_congr_left
      intro i hi
      show (r i, vr_up _ _ _ (r i)) = _
      rw [vr_up_in (List.mem_map.mpr ⟨i, hi, rfl⟩)]
    rw [hpl, List.append_assoc] at hP hD
    exact kk q r H1 locs ls hP hD hS hl9
theorem jr_putfF (C : jr_C p s m args c cc nL own Ts D cl tys A) {ref Cn : String} {T : u_T} {N ci index a k q0 : Nat} {fs : List Value} {v : Value} {ty : FieldType} (hname : meth.name = "<init>") (hdg : decode cc pc = .ok (.putfield index, 3)) (hin : ∀ w ∈ u_ws Cn T N, w ∈ Ts) (ty0 : Nat → FieldType) (hty : ∀ k, k < N → parseFieldDescriptor (T k).2.2.1 = some (ty0 k)) (hnm : ∀ a, a < N → ∀ b, b < N → a ≠ b → (T a).2.1 ≠ (T b).2.1) (hc : cl[ci]? = some (Cn, T, N)) (hk : k < N) (hlink : Cond.fieldLink own index ref (T k).2.1 (T k).2.2.1 ∈ Ts) (href : (T k).1 = ref) (hown : (T k).1 = own) (hfin : (T k).2.2.2 = true) (hd : parseFieldDescriptor (T k).2.2.1 = some ty) (hn : narrow ty v = v) (hfit : fits ty v = true) (he : ws[q0]? = some (a, .inr (ci, fs))) (hl9 : k < fs.length) (kk : jr_J p l e R s m args below meth c A D cl nL cells slots Q (ws.set q0 (a, .inr (ci, fs.set k v))) (pc + 3) lv rest) : jr_J p l e R s m args below meth c A D cl nL cells slots Q ws pc lv (v :: .ref a :: rest) :=
  fun H locs ls hP hD hS hl => va_putF C.1 C.2.1 C.2.2.2.2.1 hin ty0 hty hnm C.2.2.2.1 C.2.2.2.2.2.1 hP hD hS q0 he hc k hk (C.2.2.2.2.1 _ hlink) (fun _ h9 => href ▸ h9) hfin hname hown hd hn hfit hl9 hdg (fun H1 locs1 hP hD hS => kk H1 locs1 ls hP hD hS hl)
theorem jr_astL (C : jr_C p s m args c cc nL own Ts D cl tys A) {a q0 t0 qk ci n v : Nat} {cA : ClassId} {r : vw_C} {vs : List Value} {f : Nat → Option Nat} {i : Int32} (hdg : decode cc pc = .ok (.aastore, 1)) (ha : ws[q0]? = some (a, .inl (cA, n, .inr (.inr (.inr (.inr f)))))) (ht : tys[t0]? = some (cA, .object r.1)) (hv : ws[qk]? = some (v, .inr (ci, vs))) (hc : cl[ci]? = some r) (hi : vp_in i n) (kk : jr_J p l e R s m args below meth c A D cl nL cells slots Q (ws.set q0 (a, .inl (cA, n, .inr (.inr (.inr (.inr (va_up f i.toNatClampNeg (some v)))))))) (pc + 1) lv rest) : jr_J p l e R s m args below meth c A D cl nL cells slots Q ws pc lv (.ref v :: .int i :: .ref a :: rest) :=
  fun H locs ls hP hD hS hl => va_astq C.1 C.2.1 C.2.2.2.2.2.1 hP hD hS q0 t0 qk ci ha ht hv hc hi hdg (fun H1 locs1 hP hD hS => kk H1 locs1 ls hP hD hS hl)
theorem jr_retKv (C : jr_C p s m args c cc nL own Ts D cl tys A) {post : S → Prop} {u : S} (hr : meth.sig.returnType = none) (hlocks : meth.locks = false) (hdg : decode cc pc = .ok (.return_, 1)) (hc : cells ≤ MC) (hs : slots ≤ MS) (hp : post u) (hw : ws = wf u) : jr_J p l e R s m args below meth c A D cl nL cells slots (MQ below (va_Qv post (jr_B D cl tys wf A) A) args s MC MS A) ws pc lv [] := by
  subst hw
  intro H locs ls hP hD hS hl
  refine W.widen (k := MC) (n := MS) hc hs ?_
  exact W.vret C.1 C.2.1 hr (fun t ht hW => ⟨⟨u, rfl, hp, by rw [ht]; exact hP, va_K.moved hW.alike C.2.2.2.2.2.1, hD⟩, hS.F ht⟩) hS.2.2 hdg hlocks
theorem jr_ofK {y : MethodName} {wy wy' : List Cond} {rm : Room} {av : List Value} {post : S → Prop} (hy : plainName y.cls = true) (hw : wy = Cond.code y cc nL none :: wy') (hyn : y.name = "<init>") (hav : (lg_sl av).length ≤ nL) (hlv : lv_args 0 av = lv)
    (body : ∀ (p : Program) (e : Env) (s : State) (m : MethodId) (args : Array Value) (below : List Frame) (meth : Method) (c : Code) (A : Nat → Prop), jr_C p s m args c cc nL y.cls wy D cl tys A → meth.sig.returnType = none → meth.locks = false → meth.name = "<init>" → jA s → jr_J p l e (headSpec wy rm).room s m args below meth c A D cl nL 0 0 (MQ below (va_Qv post (jr_B D cl tys wf A) A) args s MC MS A) ws 0 lv []) : jr_Kv l y wy rm av D cl tys ws wf post MC MS := by
  intro sz
  refine Met.ofW hy hw ?_
  intro p e s m args below meth c s₁ B hml hv
  obtain ⟨rfl, ⟨hsz, hP, hK, hD0, hN⟩, hA9⟩ := hv
  subst hsz
  have hl := lv_entry av hav
  rw [hlv] at hl
  rw [lg_entry_eq]
  have hin : meth.name = "<init>" := (name_of_methodNamed B.named B.method).1.trans hyn
  exact body p e s m _ below meth c (va_A ws s.heap.size) ⟨B.exec, B.bytes, hml, findClass_of_methodNamed B.named, atoms_spec (ws := wy) B.pre, hK, fun q h => Or.inr h, hN⟩ B.returns B.notSynchronized hin hA9 s.heap [] _ hP hD0.self va_S.rf hl
theorem jr_callI (C : jr_C p s m args c cc nL own Ts D cl tys A) {post : S → Prop} {y : MethodName} {wy : List Cond} {rm : Room} {bytes : ByteArray} {maxL index n b : Nat} {As st0 : List Value} (hA9 : jA s) (hM : jr_Kv l y wy rm (.ref b :: As) D cl tys ws wf post mc ms) (cw : CallB R s args own index y bytes maxL none wy rm mc ms n ∧ y.name = "<init>" ∧ (Cond.instanceMethod y).before args s = true) (hdg : decode cc pc = .ok (.invokespecial index, 3)) (hn : As.length = n) (hst : st0 = As.reverse ++ .ref b :: rest) (hro : (rest.map fun v => v.category).sum ≤ 8) (hcl : cells + mc ≤ R.cells ∧ slots + ms ≤ R.slots) (kk : ∀ u : S, post u → jr_J p l e R s m args below meth c A D cl nL (cells + mc) (slots + ms) Q (wf u) (pc + 3) lv rest) : jr_J p l e R s m args below meth c A D cl nL cells slots Q ws pc lv st0 := by
  intro H locs ls hP hD hS hl
  subst hst
  have hF : ∀ q, va_A ws H.size q → A q := jr_free hD hS C.2.2.2.2.2.2.1
  refine va_callv (va_runI (As := As) (rest := rest) ⟨C.1, C.2.1, C.2.2.1, C.2.2.2.1, C.2.2.2.2.1⟩ (hM H.size) cw ⟨jr_blindK, fun U hU hW => ⟨rfl, ⟨by rw [hU], by rw [hU]; exact hP, va_K.moved hW.alike C.2.2.2.2.2.1, hD.weaken (fun _ _ _ _ => trivial), C.2.2.2.2.2.2.2.warm hW⟩, jA.moved hW.alike hA9⟩⟩ rfl hn hl.1 rfl (lv_room hro) hdg hcl) hS (fun q _ h => hF q h) hF (fun u t H1 locs1 ht hvm hw hB hz hk hS1 => ?_)
  obtain ⟨hP1, hK1, hD1⟩ := hB
  rw [ht] at hP1
  exact kk u hw H1 locs1 ls hP1 (hD1.weaken fun _ _ _ h => hF _ h) hS1 hl
theorem jr_mmin (C : jr_C p s m args c cc nL own Ts D cl tys A) {x y : Int32} {index : Nat} (hl : Cond.methodLink own index Lib.Math.min.name ∈ Ts) (h2 : Cond.static Lib.Math.min.name ∈ Ts) (h3 : Cond.initialized "java/lang/Math" ∈ Ts) (h4 : Cond.code Lib.Math.min.name Lib.Math.min.code 2 (some .int) ∈ Ts) (hdg : decode cc pc = .ok (.invokestatic index, 3)) (hf : 1 ≤ R.frames) (hlo : (rest.map fun v => v.category).sum + 13 ≤ R.locals) (hc : cells ≤ R.cells) (hs : slots ≤ R.slots) (kk : jr_J p l e R s m args below meth c A D cl nL cells slots Q ws (pc + 3) lv (.int (if y < x then y else x) :: rest)) : jr_J p l e R s m args below meth c A D cl nL cells slots Q ws pc lv (.int y :: .int x :: rest) := fun H locs ls hP hD hS hl9 =>
  va_mmin C.1 C.2.1 (by rw [C.2.2.1]; exact hl9.1.symm) C.2.2.2.1 (C.2.2.2.2.1 _ hl) (C.2.2.2.2.1 _ h2) (C.2.2.2.2.1 _ h3) (C.2.2.2.2.1 _ h4) hf hlo hc hs hdg (kk H locs ls hP hD hS hl9)
theorem jr_mmax (C : jr_C p s m args c cc nL own Ts D cl tys A) {x y : Int32} {index : Nat} (hl : Cond.methodLink own index Lib.Math.max.name ∈ Ts) (h2 : Cond.static Lib.Math.max.name ∈ Ts) (h3 : Cond.initialized "java/lang/Math" ∈ Ts) (h4 : Cond.code Lib.Math.max.name Lib.Math.max.code 2 (some .int) ∈ Ts) (hdg : decode cc pc = .ok (.invokestatic index, 3)) (hf : 1 ≤ R.frames) (hlo : (rest.map fun v => v.category).sum + 13 ≤ R.locals) (hc : cells ≤ R.cells) (hs : slots ≤ R.slots) (kk : jr_J p l e R s m args below meth c A D cl nL cells slots Q ws (pc + 3) lv (.int (if x < y then y else x) :: rest)) : jr_J p l e R s m args below meth c A D cl nL cells slots Q ws pc lv (.int y :: .int x :: rest) := fun H locs ls hP hD hS hl9 =>
  va_mmax C.1 C.2.1 (by rw [C.2.2.1]; exact hl9.1.symm) C.2.2.2.1 (C.2.2.2.2.1 _ hl) (C.2.2.2.2.1 _ h2) (C.2.2.2.2.1 _ h3) (C.2.2.2.2.1 _ h4) hf hlo hc hs hdg (kk H locs ls hP hD hS hl9)
end JRK
