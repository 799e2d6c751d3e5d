/-- pairs of exception types, the first no kind of the second -/
def jnc : List (String × String) := [("java/lang/IllegalArgumentException", "java/lang/IllegalStateException"), ("java/lang/IllegalArgumentException", "java/lang/IndexOutOfBoundsException"), ("java/lang/IllegalStateException", "java/lang/IllegalArgumentException"), ("java/lang/IllegalStateException", "java/lang/IndexOutOfBoundsException"), ("java/lang/IndexOutOfBoundsException", "java/lang/IllegalArgumentException"), ("java/lang/IndexOutOfBoundsException", "java/lang/IllegalStateException")]
def jNc (U : State) : Prop := ∀ q ∈ jnc, va_Nc q.1 q.2 U
theorem jNc.moved {u U : State} (hvm : u.vm.Alike U.vm) (h : jNc u) : jNc U := fun q hq => va_Nc.moved hvm (h q hq)
def jr_PreC (D : va_G) (cl : List vw_C) (tys : List (ClassId × FieldType)) (ws : va_W) (ss : List (String × Nat × String × Nat)) (sz : Nat) (U : State) : Prop := jr_PreX D cl tys ws ss sz U ∧ jNc U
theorem jr_blindC {D : va_G} {cl : List vw_C} {tys : List (ClassId × FieldType)} {ws : va_W} {ss : List (String × Nat × String × Nat)} {sz : Nat} {av : List Value} : FrameBlind (va_Pc av (jr_PreC D cl tys ws ss sz)) :=
  fun a U g mk q => ⟨q.1, (jr_blindX (av := av) a U g mk ⟨q.1, q.2.1⟩).2, jNc.moved (u := U) (U := U.calling g mk a) (Vm.Alike.refl U.vm) q.2.2⟩
/-- a method that returns an int, having made something -/
def jr_Ni {S : Type} (l : Launch) (y : MethodName) (wy : List Cond) (rm : Room) (av : List Value) (D : va_G) (cl : List vw_C) (tys : List (ClassId × FieldType)) (ws : va_W) (ss : List (String × Nat × String × Nat)) (wf : S → va_W) (post : Int32 → S → Prop) (mc ms : Nat) : Prop :=
  ∀ sz : Nat, Met l y wy rm (va_Pc av (jr_PreC D cl tys ws ss sz)) (va_Qi post (jr_B D cl tys wf (va_A ws sz)) (va_A ws sz)) mc ms (va_A ws sz)
/-- the frame at pc, with an exception of type E thrown over it -/
def jr_E (p : Program) (l : Launch) (e : Env) (R : Room) (s : State) (m : MethodId) (args : Array Value) (below : List Frame) (meth : Method) (c : Code) (A : Nat → Prop) (D : va_G) (cl : List vw_C) (nL cells slots : Nat) (Q : State → Prop) (ws : va_W) (pc : Nat) (lv : List (Nat × Value)) (rest : List Value) (E : String) : Prop :=
  ∀ (H : Heap) (locs : List Loc) (ls : Array Slot) (ce : Cell) (q : Addr), va_P D cl ws H → va_D A ws → va_S A s.heap H locs → lv_has ls nL lv → H[q]? = some ce → ce.vm = .none → s.vm.findClass E = some ce.cls → vx_W p l e R s m args below meth c H locs cells slots Q (F0 m pc ls rest) q
section JRW
variable {p : Program} {l : Launch} {e : Env} {R : Room} {s : State} {m : MethodId} {args : Array Value} {below : List Frame} {meth : Method} {c : Code} {A : Nat → Prop} {D : va_G} {cl : List vw_C} {nL cells slots : Nat} {Q : State → Prop} {ws : va_W} {pc : Nat} {lv : List (Nat × Value)} {rest : List Value}
variable {cc : ByteArray} {own : String} {Ts : List Cond} {tys : List (ClassId × FieldType)} {S : Type} {wf : S → va_W} {xp' : String → S → Prop} {ss ss' : List (String × Nat × String × Nat)} {mc ms MC MS : Nat}
theorem jr_callCi (C : jr_C p s m args c cc nL own Ts D cl tys A) {post : Int32 → S → Prop} {y : MethodName} {wy : List Cond} {rm : Room} {bytes : ByteArray} {maxL index n : Nat} {ret : Option FieldType} {As st0 : List Value} {Cn : String} {T : u_T} {N ci q0 b : Nat} {fs : List Value} (hZ : jr_Z A s s.heap) (hss : ∀ q ∈ ss', vk_R q.1 q.2.1 q.2.2.1 q.2.2.2 s) (hM : jr_Ti l y wy rm (.ref b :: As) D cl tys ws ss' wf post xp' mc ms) (cw : CallW R s args own Cn index y bytes maxL ret wy rm mc ms n) (hdg : decode cc pc = .ok (.invokevirtual index, 3)) (hc9 : cl[ci]? = some (Cn, T, N)) (he : ws[q0]? = some (b, .inr (ci, fs))) (hn : As.length = n) (hst : st0 = As.reverse ++ .ref b :: rest) (hro : (rest.map fun v => v.category).sum ≤ 8) (hcl : cells + mc ≤ R.cells ∧ slots + ms ≤ R.slots)
    (kx : ∀ (E : String) (u : S), xp' E u → jr_E p l e R s m args below meth c A D cl nL (cells + mc) (slots + ms) Q (wf u) pc lv rest E) (kk : ∀ (r : Int32) (u : S), post r u → jr_J p l e R s m args below meth c A D cl nL (cells + mc) (slots + ms) Q (wf u) (pc + 3) lv (.int r :: rest)) : jr_J p l e R s m args below meth c A D cl nL cells slots Q ws pc lv st0 := by
  intro H locs ls hP hD hS hl
  subst hst
  have hF : ∀ q, va_A ws H.size q → A q := jr_free hD hS C.2.2.2.2.2.2.1
  refine vx_calli (vx_runV (As := As) (rest := rest) ⟨C.1, C.2.1, C.2.2.1, C.2.2.2.1, C.2.2.2.2.1⟩ (hM H.size) cw ⟨jr_blindX, va_recv C.2.2.2.2.2.1 hP hc9 he, fun U hU hW => ⟨rfl, ⟨by rw [hU], by rw [hU]; exact hP, va_K.moved hW.alike C.2.2.2.2.2.1, hD.weaken (fun _ _ _ _ => trivial), C.2.2.2.2.2.2.2.warm hW⟩, hZ.at hS hF hU hW.alike, fun q hq => (hss q hq).warm hW⟩⟩ rfl hn hl.1 rfl (lv_room hro) hdg hcl) hS (fun q _ h => hF q h) hF (fun q _ h => hF q h) (fun E ce q9 u t H1 locs1 ht hvm _ hBX hz hk hS1 hce hcv hcl9 => ?_) (fun r u t H1 locs1 ht hvm hw hB hz hk hS1 => ?_)
  · obtain ⟨hxe, hP1, hK1, hD1⟩ := hBX
    rw [ht] at hP1
    exact kx E u hxe H1 locs1 ls ce q9 hP1 (hD1.weaken fun _ _ _ h => hF _ h) hS1 hl hce hcv hcl9
  · obtain ⟨hP1, hK1, hD1⟩ := hB
    rw [ht] at hP1
    exact kk r u hw H1 locs1 ls hP1 (hD1.weaken fun _ _ _ h => hF _ h) hS1 hl
theorem jr_callCl (C : jr_C p s m args c cc nL own Ts D cl tys A) {post : Int64 → S → Prop} {y : MethodName} {wy : List Cond} {rm : Room} {bytes : ByteArray} {maxL index n : Nat} {ret : Option FieldType} {As st0 : List Value} {Cn : String} {T : u_T} {N ci q0 b : Nat} {fs : List Value} (hZ : jr_Z A s s.heap) (hss : ∀ q ∈ ss', vk_R q.1 q.2.1 q.2.2.1 q.2.2.2 s) (hM : jr_Tl l y wy rm (.ref b :: As) D cl tys ws ss' wf post xp' mc ms) (cw : CallW R s args own Cn index y bytes maxL ret wy rm mc ms n) (hdg : decode cc pc = .ok (.invokevirtual index, 3)) (hc9 : cl[ci]? = some (Cn, T, N)) (he : ws[q0]? = some (b, .inr (ci, fs))) (hn : As.length = n) (hst : st0 = As.reverse ++ .ref b :: rest) (hro : (rest.map fun v => v.category).sum ≤ 8) (hcl : cells + mc ≤ R.cells ∧ slots + ms ≤ R.slots)
    (kx : ∀ (E : String) (u : S), xp' E u → jr_E p l e R s m args below meth c A D cl nL (cells + mc) (slots + ms) Q (wf u) pc lv rest E) (kk : ∀ (r : Int64) (u : S), post r u → jr_J p l e R s m args below meth c A D cl nL (cells + mc) (slots + ms) Q (wf u) (pc + 3) lv (.long r :: rest)) : jr_J p l e R s m args below meth c A D cl nL cells slots Q ws pc lv st0 := by
  intro H locs ls hP hD hS hl
  subst hst
  have hF : ∀ q, va_A ws H.size q → A q := jr_free hD hS C.2.2.2.2.2.2.1
  refine vx_calll (vx_runV (As := As) (rest := rest) ⟨C.1, C.2.1, C.2.2.1, C.2.2.2.1, C.2.2.2.2.1⟩ (hM H.size) cw ⟨jr_blindX, va_recv C.2.2.2.2.2.1 hP hc9 he, fun U hU hW => ⟨rfl, ⟨by rw [hU], by rw [hU]; exact hP, va_K.moved hW.alike C.2.2.2.2.2.1, hD.weaken (fun _ _ _ _ => trivial), C.2.2.2.2.2.2.2.warm hW⟩, hZ.at hS hF hU hW.alike, fun q hq => (hss q hq).warm hW⟩⟩ rfl hn hl.1 rfl (lv_room hro) hdg hcl) hS (fun q _ h => hF q h) hF (fun q _ h => hF q h) (fun E ce q9 u t H1 locs1 ht hvm _ hBX hz hk hS1 hce hcv hcl9 => ?_) (fun r u t H1 locs1 ht hvm hw hB hz hk hS1 => ?_)
  · obtain ⟨hxe, hP1, hK1, hD1⟩ := hBX
    rw [ht] at hP1
    exact kx E u hxe H1 locs1 ls ce q9 hP1 (hD1.weaken fun _ _ _ h => hF _ h) hS1 hl hce hcv hcl9
  · obtain ⟨hP1, hK1, hD1⟩ := hB
    rw [ht] at hP1
    exact kk r u hw H1 locs1 ls hP1 (hD1.weaken fun _ _ _ h => hF _ h) hS1 hl
theorem jr_catch (C : jr_C p s m args c cc nL own Ts D cl tys A) {E name : String} (pre : List ExceptionTableEntry) (x : ExceptionTableEntry) (suf : List ExceptionTableEntry) (tbl : c.exceptionTable.toList = pre ++ x :: suf) (hpass : ∀ z ∈ pre, z.catchType ≠ 0 ∧ ∃ nm : String, Cond.classLink own z.catchType nm ∈ Ts ∧ va_Nc E nm s) (hx : covers x pc = true) (h0 : x.catchType ≠ 0) (hlink : Cond.classLink own x.catchType name ∈ Ts) (hcast : (Cond.castable E name).before args s = true)
    (kk : ∀ q : Nat, jr_J p l e R s m args below meth c A D cl nL cells slots Q ws x.handlerPc lv [.ref q]) : jr_E p l e R s m args below meth c A D cl nL cells slots Q ws pc lv rest E :=
  fun H locs ls ce q hP hD hS hl hce hcv hcl => vx_catch C.2.2.2.1 pre x suf tbl (fun z hz => Or.inr ⟨(hpass z hz).1, (hpass z hz).2.elim fun nm h => ⟨nm, C.2.2.2.2.1 _ h.1, h.2⟩⟩) hx h0 (C.2.2.2.2.1 _ hlink) hcast hce hcv hcl (kk q H locs ls hP hD hS hl)
theorem jr_retNi (C : jr_C p s m args c cc nL own Ts D cl tys A) {post : Int32 → S → Prop} {u : S} {v : Int32} (hr : meth.sig.returnType = some .int) (hlocks : meth.locks = false) (hdg : decode cc pc = .ok (.ireturn, 1)) (hc : cells ≤ MC) (hs : slots ≤ MS) (hp : post v u) (hw : ws = wf u) : jr_J p l e R s m args below meth c A D cl nL cells slots (MQ below (va_Qi post (jr_B D cl tys wf A) A) args s MC MS A) ws pc lv [.int v] := by
  subst hw
  intro H locs ls hP hD hS hl
  refine W.widen (k := MC) (n := MS) hc hs ?_
  exact W.iret C.1 C.2.1 hr (fun t ht hW => ⟨⟨v, u, rfl, hp, by rw [ht]; exact hP, va_K.moved hW.alike C.2.2.2.2.2.1, hD⟩, hS.F ht⟩) hS.2.2 hdg hlocks
theorem jr_ofWi {y : MethodName} {wy wy' : List Cond} {rm : Room} {av : List Value} {post : Int32 → S → Prop} {hh : List (Nat × Nat × Nat × Nat)} (hy : plainName y.cls = true) (hw : wy = Cond.codeWith y cc nL (some .int) hh :: wy') (hav : (lg_sl av).length ≤ nL) (hlv : lv_args 0 av = lv)
    (body : ∀ (p : Program) (e : Env) (s : State) (m : MethodId) (args : Array Value) (below : List Frame) (meth : Method) (c : Code) (A : Nat → Prop), jr_C p s m args c cc nL y.cls wy D cl tys A → meth.sig.returnType = some .int → meth.locks = false → c.exceptionTable.toList = tableOf hh → jr_Z A s s.heap → (∀ q ∈ ss, vk_R q.1 q.2.1 q.2.2.1 q.2.2.2 s) → jNc s → jr_J p l e (headSpec wy rm).room s m args below meth c A D cl nL 0 0 (MQ below (va_Qi post (jr_B D cl tys wf A) A) args s MC MS A) ws 0 lv []) : jr_Ni l y wy rm av D cl tys ws ss wf post MC MS := by
  intro sz
  refine va_MetW hy hw ?_
  intro p e s m args below meth c s₁ B hml hv
  obtain ⟨rfl, ⟨⟨hsz, hP, hK, hD0, hN⟩, hZ, hs9⟩, hnc⟩ := hv
  subst hsz
  have hl := lv_entry av hav
  rw [hlv] at hl
  rw [lg_entry_eq]
  have hts := atoms_spec (ws := wy) B.pre
  exact body p e s m _ below meth c (va_A ws s.heap.size) ⟨B.exec, B.bytes, hml, findClass_of_methodNamed B.named, hts, hK, fun q h => Or.inr h, hN⟩ B.returns B.notSynchronized (vx_table (x := y) B (hts _ (by rw [hw]; exact List.mem_cons_self))) hZ hs9 hnc s.heap [] _ hP hD0.self va_S.rf hl
end JRW
theorem vi_01 : vp_in 0 1 := by unfold vp_in; decide
/-- the class's world with the law's own row of one long beside it -/
abbrev oC (cJ : ClassId) (ao : Nat) (f : Nat → Int64) : Nat × va_E := (ao, .inl (cJ, 1, .inr (.inl f)))
abbrev oW (cI cII cL cJ : ClassId) (ad : Nat → Nat) (ao : Nat) (K F : Nat) (fr : va_W) (u : jS × (Nat → Int64)) : va_W := kW cI cII cL ad K F (oC cJ ao u.2 :: fr) u.1
theorem kW_len {cI cII cL : ClassId} {ad : Nat → Nat} {K F : Nat} {fr : va_W} {st : jS} {i : Nat} : (kW cI cII cL ad K F fr st)[51 + 3 * K + i]? = fr[i]? := by
  unfold kW jw
  rw [List.getElem?_append_right (by simp)]
  congr 1
  simp
theorem oA {cI cII cL cJ : ClassId} {ad : Nat → Nat} {ao : Nat} {K F : Nat} {fr : va_W} {st : jS} {f : Nat → Int64} : (kW cI cII cL ad K F (oC cJ ao f :: fr) st)[51 + 3 * K]? = some (ao, .inl (cJ, 1, .inr (.inl f))) := kW_len (i := 0)
theorem oP {cI cII cL cJ : ClassId} {ad : Nat → Nat} {ao : Nat} {K F : Nat} {fr : va_W} {st : jS} {f f2 : Nat → Int64} : (kW cI cII cL ad K F (oC cJ ao f :: fr) st).set (51 + 3 * K) (ao, .inl (cJ, 1, .inr (.inl f2))) = kW cI cII cL ad K F (oC cJ ao f2 :: fr) st := by
  unfold kW jw
  rw [List.set_append, if_neg (by simp)]
  congr 1
  simp
