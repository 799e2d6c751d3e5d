section JRL
variable {p : Program} {l : Launch} {e : Env} {R : Room} {s : State} {m : MethodId} {args : Array Value} {below : List Frame} {meth : Method} {c : Code} {A : Nat → Prop} {D : va_G} {cl : List vw_C} {nL cells slots : Nat} {Q : State → Prop} {ws ws' : va_W} {pc : Nat} {lv : List (Nat × Value)} {rest : List Value}
variable {cc : ByteArray} {own : String} {Ts : List Cond} {tys : List (ClassId × FieldType)} {S : Type} {wf : S → va_W} {ss' : List (String × Nat × String × Nat)} {mc ms : Nat}
theorem jr_callNi (C : jr_C p s m args c cc nL own Ts D cl tys A) {post : Int32 → S → Prop} {y : MethodName} {wy : List Cond} {rm : Room} {bytes : ByteArray} {maxL index n : Nat} {ret : Option FieldType} {hh : List (Nat × Nat × Nat × Nat)} {As st0 : List Value} (hZ : jr_Z A s s.heap) (hss : ∀ q ∈ ss', vk_R q.1 q.2.1 q.2.2.1 q.2.2.2 s) (hnc : jNc s) (hM : jr_Ni l y wy rm As D cl tys ws ss' wf post mc ms) (cw : vx_CSW R s args own index y bytes maxL ret hh wy rm mc ms n) (hdg : decode cc pc = .ok (.invokestatic index, 3)) (hn : As.length = n) (hst : st0 = As.reverse ++ rest) (hro : (rest.map fun v => v.category).sum ≤ 8) (hcl : cells + mc ≤ R.cells ∧ slots + ms ≤ R.slots)
    (kk : ∀ (r : Int32) (u : S), post r u → jr_J p l e R s m args below meth c A D cl nL (cells + mc) (slots + ms) Q (wf u) (pc + 3) lv (.int r :: rest)) : jr_J p l e R s m args below meth c A D cl nL cells slots Q ws pc lv st0 := by
  intro H locs ls hP hD hS hl
  subst hst
  have hF : ∀ q, va_A ws H.size q → A q := jr_free hD hS C.2.2.2.2.2.2.1
  refine va_calli (vx_runSW (As := As) (rest := rest) ⟨C.1, C.2.1, C.2.2.1, C.2.2.2.1, C.2.2.2.2.1⟩ (hM H.size) cw ⟨jr_blindC, fun U hU hW => ⟨rfl, ⟨⟨by rw [hU], by rw [hU]; exact hP, va_K.moved hW.alike C.2.2.2.2.2.1, hD.weaken (fun _ _ _ _ => trivial), C.2.2.2.2.2.2.2.warm hW⟩, hZ.at hS hF hU hW.alike, fun q hq => (hss q hq).warm hW⟩, jNc.moved hW.alike hnc⟩⟩ rfl hn hl.1 rfl (lv_room hro) hdg hcl) hS (fun q _ h => hF q h) hF (fun r u t H1 locs1 ht hvm hw hB hz hk hS1 => ?_)
  obtain ⟨hP1, hK1, hD1⟩ := hB
  rw [ht] at hP1
  exact kk r u hw H1 locs1 ls hP1 (hD1.weaken fun _ _ _ h => hF _ h) hS1 hl
/-- the same cells in another order -/
theorem jr_perm (h1 : ∀ H, va_P D cl ws H → va_P D cl ws' H) (h2 : va_D A ws → va_D A ws') (kk : jr_J p l e R s m args below meth c A D cl nL cells slots Q ws' pc lv rest) : jr_J p l e R s m args below meth c A D cl nL cells slots Q ws pc lv rest := fun H locs ls hP hD hS hl => kk H locs ls (h1 H hP) (h2 hD) hS hl
theorem jr_widen {k n : Nat} (h1 : cells ≤ k) (h2 : slots ≤ n) (kk : jr_J p l e R s m args below meth c A D cl nL k n Q ws pc lv rest) : jr_J p l e R s m args below meth c A D cl nL cells slots Q ws pc lv rest := fun H locs ls hP hD hS hl => W.widen h1 h2 (kk H locs ls hP hD hS hl)
theorem jr_sld (C : jr_C p s m args c cc nL own Ts D cl tys A) {b L : Nat} {xs : Nat → Int32} {i : Int32} (hX : va_X b L xs s s.heap) (hbl : b < s.heap.size) (hbA : ¬ A b) (hin : vp_in i L) (hdg : decode cc pc = .ok (.iaload, 1)) (kk : jr_J p l e R s m args below meth c A D cl nL cells slots Q ws (pc + 1) lv (.int (xs (Int32.toNatClampNeg i)) :: rest)) : jr_J p l e R s m args below meth c A D cl nL cells slots Q ws pc lv (.int i :: .ref b :: rest) := fun H locs ls hP hD hS hl => va_sld C.1 C.2.1 hX hbl hbA hS hin hdg (kk H locs ls hP hD hS hl)
theorem jr_slen (C : jr_C p s m args c cc nL own Ts D cl tys A) {b L : Nat} {xs : Nat → Int32} (hX : va_X b L xs s s.heap) (hbl : b < s.heap.size) (hbA : ¬ A b) (hdg : decode cc pc = .ok (.arraylength, 1)) (kk : jr_J p l e R s m args below meth c A D cl nL cells slots Q ws (pc + 1) lv (.int (Int32.ofNat L) :: rest)) : jr_J p l e R s m args below meth c A D cl nL cells slots Q ws pc lv (.ref b :: rest) := fun H locs ls hP hD hS hl => va_slen C.1 C.2.1 hX hbl hbA hS hdg (kk H locs ls hP hD hS hl)
end JRL
/-- the law's world: the class's, its own row, the reference's -/
def lV (cI cII cL cJ : ClassId) (ad am : Nat → Nat) (ao K F : Nat) (st : jS) (f : Nat → Int64) (sm : jS) : va_W := kW cI cII cL ad K F (oC cJ ao f :: mW cI am [] sm) st
def lM (cI cII cL cJ : ClassId) (ad am : Nat → Nat) (ao K F : Nat) (st : jS) (f : Nat → Int64) (sm : jS) : va_W := mW cI am (kW cI cII cL ad K F [oC cJ ao f] st) sm
section LV
variable {cI cII cL cJ : ClassId} {ad am : Nat → Nat} {ao K F : Nat} {st sm : jS} {f : Nat → Int64} {A : Nat → Prop} {D : va_G} {cl : List vw_C}
theorem lV_eq : lV cI cII cL cJ ad am ao K F st f sm = ([] ++ kW cI cII cL ad K F [oC cJ ao f] st) ++ mW cI am [] sm := by
  unfold lV kW jw
  simp
theorem lM_eq : lM cI cII cL cJ ad am ao K F st f sm = ([] ++ mW cI am [] sm) ++ kW cI cII cL ad K F [oC cJ ao f] st := by
  unfold lM mW jw
  simp
theorem lV_P (H : Heap) (h : va_P D cl (lV cI cII cL cJ ad am ao K F st f sm) H) : va_P D cl (lM cI cII cL cJ ad am ao K F st f sm) H := by
  rw [lM_eq]; rw [lV_eq] at h; exact va_P.swap h
theorem lM_P (H : Heap) (h : va_P D cl (lM cI cII cL cJ ad am ao K F st f sm) H) : va_P D cl (lV cI cII cL cJ ad am ao K F st f sm) H := by
  rw [lM_eq] at h; rw [lV_eq]; exact va_P.swap h
theorem lV_D (h : va_D A (lV cI cII cL cJ ad am ao K F st f sm)) : va_D A (lM cI cII cL cJ ad am ao K F st f sm) := by
  rw [lM_eq]; rw [lV_eq] at h; exact va_D.swap h
theorem lM_D (h : va_D A (lM cI cII cL cJ ad am ao K F st f sm)) : va_D A (lV cI cII cL cJ ad am ao K F st f sm) := by
  rw [lM_eq] at h; rw [lV_eq]; exact va_D.swap h
end LV
/-- the law's own words: one that stands for its code, and those that are handed on -/
abbrev lTs : List Cond := Cond.initialized "KindTables" :: tw
