/-- which kinds, which features there are -/
def kC1 (l1 : Int32) : Int32 := if (1 : Int32) < (if l1 < 6 then l1 else 6) then (if l1 < 6 then l1 else 6) else 1
def kC2 (l2 : Int32) : Int32 := (if (1 : Int32) < (if l2 < 8 then l2 else 8) then (if l2 < 8 then l2 else 8) else 1) + 3
def lcell (cI : ClassId) (la : Nat → Nat) (j : Nat) : va_E := if j % 3 = 0 then .inr (4, [.ref (la (j + 1)), .ref (la (j + 2)), .int 0]) else zI cI 6
def lcells (cI : ClassId) (la : Nat → Nat) (k : Nat) : va_W := (List.range (3 * k)).map (fun j => (la j, lcell cI la j))
def larr (la : Nat → Nat) (k : Nat) : Nat → Option Nat := fun i => if i < k then some (la (3 * i)) else none
def lnext (la : Nat → Nat) (k a b c : Nat) : Nat → Nat := fun j => if j = 3 * k then a else if j = 3 * k + 1 then b else if j = 3 * k + 2 then c else la j
theorem lnext_lt {la : Nat → Nat} {k a b c j : Nat} (h : j < 3 * k) : lnext la k a b c j = la j := by
  unfold lnext
  rw [if_neg (by omega), if_neg (by omega), if_neg (by omega)]
theorem larr_0 {la : Nat → Nat} : larr la 0 = fun _ => none := by
  funext i
  simp [larr]
theorem larr_s {la : Nat → Nat} {k a b c : Nat} : va_up (larr la k) k (some a) = larr (lnext la k a b c) (k + 1) := by
  funext i
  unfold va_up larr
  by_cases h : i = k
  · subst h
    rw [if_pos rfl, if_pos (by omega)]
    unfold lnext
    rw [if_pos rfl]
  · rw [if_neg h]
    by_cases h2 : i < k
    · rw [if_pos h2, if_pos (by omega), lnext_lt (by omega)]
    · rw [if_neg h2, if_neg (by omega)]
theorem lcells_s {cI : ClassId} {la : Nat → Nat} {k a b c : Nat} : lcells cI la k ++ [(a, .inr (4, [.ref b, .ref c, .int 0])), (b, zI cI 6), (c, zI cI 6)] = lcells cI (lnext la k a b c) (k + 1) := by
  unfold lcells
  rw [show 3 * (k + 1) = 3 * k + 1 + 1 + 1 by omega, List.range_succ, List.range_succ, List.range_succ, List.map_append, List.map_append, List.map_append, List.append_assoc, List.append_assoc]
  congr 1
  · apply List.map_congr_left
    intro j hj
    have hj := List.mem_range.mp hj
    rw [lnext_lt hj]
    unfold lcell
    by_cases h : j % 3 = 0
    · rw [if_pos h, if_pos h, lnext_lt (by omega), lnext_lt (by omega)]
    · rw [if_neg h, if_neg h]
  · simp [lcell, lnext]
/-- the class's ints when an object is new -/
def kS0 (K F : Nat) : jS := fun k j => match k with
  | 0 => if j = 0 then nI K else if j = 1 then nI F else 0
  | 1 => if j = 0 then nI F else 0
  | 2 => if j = 1 then nI K else if j = 5 then 1 else 0
  | 3 => if j = 0 then nI K else 0
  | 7 => fU (fun _ => 100) F j
  | 9 => fU nI K j
  | _ => 0
def kTx (cI cII cL : ClassId) (K F q0 q1 : Nat) (e : Nat × (Nat → Nat) × Nat × Nat × Nat) (q2 : Nat) (t : Nat × Nat × Nat) (q3 : Nat) (h : Nat × Nat × Nat × (Nat → Nat)) (q4 : Nat) (f : Nat → Option Nat) : va_W :=
  (q0, .inr (0, [.int (nI K), .int (nI F), .ref q1, .ref q2, .ref q3, .ref q4])) :: (q1, .inr (1, [.int (nI F), .ref e.1, .ref e.2.2.1, .ref e.2.2.2.1, .ref e.2.2.2.2, .int 0])) :: (e.1, rI cII 24 (fun i => if i < 24 then some (e.2.1 i) else none)) :: ((List.range 24).map (fun i => (e.2.1 i, zI cI F)) ++ ([(e.2.2.1, zI cI 24), (e.2.2.2.1, .inl (cI, F, .inl (fU (fun _ => 100) F))), (e.2.2.2.2, zI cI 24), (q2, .inr (2, [.ref q1, .int (nI K), .ref t.1, .ref t.2.1, .ref t.2.2, .int 1])), (t.1, .inl (cI, K, .inl (fU nI K))), (t.2.1, zI cI K), (t.2.2, zI cI F), (q3, .inr (3, [.int (nI K), .ref h.1, .ref h.2.1, .ref h.2.2.1, .int 0])), (h.1, zI cI 12), (h.2.1, zI cI 12), (h.2.2.1, rI cII 12 (fun i => if i < 12 then some (h.2.2.2 i) else none))] ++ ((List.range 12).map (fun i => (h.2.2.2 i, zI cI K)) ++ [(q4, rI cL K f)])))
def kAd (q0 q1 : Nat) (e : Nat × (Nat → Nat) × Nat × Nat × Nat) (q2 : Nat) (t : Nat × Nat × Nat) (q3 : Nat) (h : Nat × Nat × Nat × (Nat → Nat)) (q4 : Nat) (la : Nat → Nat) : Nat → Nat := fun k => match k with
  | 0 => q0
  | 1 => q1
  | 2 => q2
  | 3 => q3
  | 4 => q4
  | 5 => e.1
  | 6 => e.2.2.1
  | 7 => e.2.2.2.1
  | 8 => e.2.2.2.2
  | 9 => t.1
  | 10 => t.2.1
  | 11 => t.2.2
  | 12 => h.1
  | 13 => h.2.1
  | 14 => h.2.2.1
  | n + 15 => if n < 24 then e.2.1 n else if n < 36 then h.2.2.2 (n - 24) else la (n - 36)
/-- where the cell of a place lies in the list of the things as they were made -/
def kIx (k : Nat) : Nat := if k < 15 then [0, 1, 30, 34, 50, 2, 27, 28, 29, 31, 32, 33, 35, 36, 37].getD k 0 else if k < 39 then k - 12 else if k < 51 then k - 1 else k
section KX
variable {cI cII cL : ClassId} {K F q0 q1 : Nat} {e : Nat × (Nat → Nat) × Nat × Nat × Nat} {q2 : Nat} {t : Nat × Nat × Nat} {q3 : Nat} {h : Nat × Nat × Nat × (Nat → Nat)} {q4 : Nat} {la : Nat → Nat}
theorem kAd_15 (n : Nat) : kAd q0 q1 e q2 t q3 h q4 la (n + 15) = if n < 24 then e.2.1 n else if n < 36 then h.2.2.2 (n - 24) else la (n - 36) := rfl
theorem kAd_num (i : Nat) : (if i < 24 then some (e.2.1 i) else none) = if i < 24 then some (kAd q0 q1 e q2 t q3 h q4 la (15 + i)) else none := by
  by_cases hi : i < 24
  · rw [if_pos hi, if_pos hi, Nat.add_comm 15 i, kAd_15, if_pos hi]
  · rw [if_neg hi, if_neg hi]
theorem kAd_cat (i : Nat) : (if i < 12 then some (h.2.2.2 i) else none) = if i < 12 then some (kAd q0 q1 e q2 t q3 h q4 la (39 + i)) else none := by
  by_cases hi : i < 12
  · rw [if_pos hi, if_pos hi, show 39 + i = (24 + i) + 15 by omega, kAd_15, if_neg (by omega), if_pos (by omega), Nat.add_sub_cancel_left]
  · rw [if_neg hi, if_neg hi]
theorem kAd_law (i : Nat) : larr la K i = if i < K then some (kAd q0 q1 e q2 t q3 h q4 la (51 + 3 * i)) else none := by
  unfold larr
  by_cases hi : i < K
  · rw [if_pos hi, if_pos hi, show 51 + 3 * i = (36 + 3 * i) + 15 by omega, kAd_15, if_neg (by omega), if_neg (by omega), Nat.add_sub_cancel_left]
  · rw [if_neg hi, if_neg hi]
theorem kIx_4 : (kTx cI cII cL K F q0 q1 e q2 t q3 h q4 (larr la K))[kIx 4]? = some (kAd q0 q1 e q2 t q3 h q4 la 4, kG cI cII cL (kAd q0 q1 e q2 t q3 h q4 la) K F 4 (kS0 K F 4)) := by
  show some (q4, rI cL K (larr la K)) = some (q4, rI cL K (fun i => if i < K then some (kAd q0 q1 e q2 t q3 h q4 la (51 + 3 * i)) else none))
  rw [← funext (kAd_law (K := K) (q0 := q0) (q1 := q1) (e := e) (q2 := q2) (t := t) (q3 := q3) (h := h) (q4 := q4) (la := la))]
theorem kIx_5 : (kTx cI cII cL K F q0 q1 e q2 t q3 h q4 (larr la K))[kIx 5]? = some (kAd q0 q1 e q2 t q3 h q4 la 5, kG cI cII cL (kAd q0 q1 e q2 t q3 h q4 la) K F 5 (kS0 K F 5)) := by
  show some (e.1, rI cII 24 (fun i => if i < 24 then some (e.2.1 i) else none)) = some (e.1, rI cII 24 (fun i => if i < 24 then some (kAd q0 q1 e q2 t q3 h q4 la (15 + i)) else none))
  rw [← funext (kAd_num (q0 := q0) (q1 := q1) (e := e) (q2 := q2) (t := t) (q3 := q3) (h := h) (q4 := q4) (la := la))]
theorem kIx_14 : (kTx cI cII cL K F q0 q1 e q2 t q3 h q4 (larr la K))[kIx 14]? = some (kAd q0 q1 e q2 t q3 h q4 la 14, kG cI cII cL (kAd q0 q1 e q2 t q3 h q4 la) K F 14 (kS0 K F 14)) := by
  show some (h.2.2.1, rI cII 12 (fun i => if i < 12 then some (h.2.2.2 i) else none)) = some (h.2.2.1, rI cII 12 (fun i => if i < 12 then some (kAd q0 q1 e q2 t q3 h q4 la (39 + i)) else none))
  rw [← funext (kAd_cat (q0 := q0) (q1 := q1) (e := e) (q2 := q2) (t := t) (q3 := q3) (h := h) (q4 := q4) (la := la))]
set_option maxRecDepth 100000 in
set_option maxHeartbeats 4000000 in
theorem kIx_lo : ∀ k, k < 51 → (kTx cI cII cL K F q0 q1 e q2 t q3 h q4 (larr la K))[kIx k]? = some (kAd q0 q1 e q2 t q3 h q4 la k, kG cI cII cL (kAd q0 q1 e q2 t q3 h q4 la) K F k (kS0 K F k)) := by
  intro k hk
  match k, hk with
  | 0, _ => rfl
  | 1, _ => rfl
  | 2, _ => rfl
  | 3, _ => rfl
  | 4, _ => exact kIx_4
  | 5, _ => exact kIx_5
  | 6, _ => rfl
  | 7, _ => rfl
  | 8, _ => rfl
  | 9, _ => rfl
  | 10, _ => rfl
  | 11, _ => rfl
  | 12, _ => rfl
  | 13, _ => rfl
  | 14, _ => exact kIx_14
  | 15, _ => rfl
  | 16, _ => rfl
  | 17, _ => rfl
  | 18, _ => rfl
  | 19, _ => rfl
  | 20, _ => rfl
  | 21, _ => rfl
  | 22, _ => rfl
  | 23, _ => rfl
  | 24, _ => rfl
  | 25, _ => rfl
  | 26, _ => rfl
  | 27, _ => rfl
  | 28, _ => rfl
  | 29, _ => rfl
  | 30, _ => rfl
  | 31, _ => rfl
  | 32, _ => rfl
  | 33, _ => rfl
  | 34, _ => rfl
  | 35, _ => rfl
  | 36, _ => rfl
  | 37, _ => rfl
  | 38, _ => rfl
  | 39, _ => rfl
  | 40, _ => rfl
  | 41, _ => rfl
  | 42, _ => rfl
  | 43, _ => rfl
  | 44, _ => rfl
  | 45, _ => rfl
  | 46, _ => rfl
  | 47, _ => rfl
  | 48, _ => rfl
  | 49, _ => rfl
  | 50, _ => rfl
  | k + 51, hk => exact absurd hk (by omega)
theorem kTx_len {f : Nat → Option Nat} : (kTx cI cII cL K F q0 q1 e q2 t q3 h q4 f).length = 51 := by simp [kTx]
theorem kIx_hi {k : Nat} (h1 : 51 ≤ k) (h2 : k < 51 + 3 * K) : (kTx cI cII cL K F q0 q1 e q2 t q3 h q4 (larr la K) ++ lcells cI la K)[k]? = some (kAd q0 q1 e q2 t q3 h q4 la k, kG cI cII cL (kAd q0 q1 e q2 t q3 h q4 la) K F k (kS0 K F k)) := by
  obtain ⟨j, rfl⟩ : ∃ j, k = j + 36 + 15 := ⟨k - 51, by omega⟩
  rw [List.getElem?_append_right (by rw [kTx_len]; omega), kTx_len, show j + 36 + 15 - 51 = j by omega]
  unfold lcells
  rw [List.getElem?_map, List.getElem?_range (by omega)]
  have e1 : kAd q0 q1 e q2 t q3 h q4 la (j + 36 + 15) = la j := by
    rw [kAd_15, if_neg (by omega), if_neg (by omega), Nat.add_sub_cancel]
  have e2 : kAd q0 q1 e q2 t q3 h q4 la (j + 36 + 16) = la (j + 1) := by
    rw [show j + 36 + 16 = (j + 37) + 15 by omega, kAd_15, if_neg (by omega), if_neg (by omega), show j + 37 - 36 = j + 1 by omega]
  have e3 : kAd q0 q1 e q2 t q3 h q4 la (j + 36 + 17) = la (j + 2) := by
    rw [show j + 36 + 17 = (j + 38) + 15 by omega, kAd_15, if_neg (by omega), if_neg (by omega), show j + 38 - 36 = j + 2 by omega]
  have e4 : kG cI cII cL (kAd q0 q1 e q2 t q3 h q4 la) K F (j + 36 + 15) (kS0 K F (j + 36 + 15)) = lcell cI la j := by
    have e5 : kG cI cII cL (kAd q0 q1 e q2 t q3 h q4 la) K F (j + 36 + 15) (fun _ => 0) = if j + 36 < 24 then .inl (cI, F, .inl (fun _ => 0)) else if j + 36 < 36 then .inl (cI, K, .inl (fun _ => 0)) else if (j + 36 - 36) % 3 = 0 then .inr (4, [.ref (kAd q0 q1 e q2 t q3 h q4 la (j + 36 + 16)), .ref (kAd q0 q1 e q2 t q3 h q4 la (j + 36 + 17)), .int 0]) else .inl (cI, 6, .inl (fun _ => 0)) := rfl
    have e6 : kS0 K F (j + 36 + 15) = fun _ => 0 := rfl
    rw [e6, e5, if_neg (by omega), if_neg (by omega), e2, e3, Nat.add_sub_cancel]
    rfl
  rw [e1, e4]
  rfl
theorem kIx_in {k : Nat} (hk : k < 51 + 3 * K) : (kTx cI cII cL K F q0 q1 e q2 t q3 h q4 (larr la K) ++ lcells cI la K)[kIx k]? = some (kAd q0 q1 e q2 t q3 h q4 la k, kG cI cII cL (kAd q0 q1 e q2 t q3 h q4 la) K F k (kS0 K F k)) := by
  by_cases h1 : k < 51
  · have h9 := kIx_lo (cI := cI) (cII := cII) (cL := cL) (K := K) (F := F) (q0 := q0) (q1 := q1) (e := e) (q2 := q2) (t := t) (q3 := q3) (h := h) (q4 := q4) (la := la) k h1
    rw [List.getElem?_append_left (List.getElem?_eq_some_iff.mp h9).1]
    exact h9
  · have e9 : kIx k = k := by
      unfold kIx
      rw [if_neg (by omega), if_neg (by omega), if_neg (by omega)]
    rw [e9]
    exact kIx_hi (by omega) hk
theorem kIx_get (k : Nat) (q : Nat × va_E) (hq : (kW cI cII cL (kAd q0 q1 e q2 t q3 h q4 la) K F [] (kS0 K F))[k]? = some q) : ([] ++ (kTx cI cII cL K F q0 q1 e q2 t q3 h q4 (larr la K) ++ lcells cI la K))[kIx k]? = some q := by
  have hk : k < 51 + 3 * K := by
    have := (List.getElem?_eq_some_iff.mp hq).1
    simpa [kW, jw] using this
  have h9 : (kW cI cII cL (kAd q0 q1 e q2 t q3 h q4 la) K F [] (kS0 K F))[k]? = some (kAd q0 q1 e q2 t q3 h q4 la k, kG cI cII cL (kAd q0 q1 e q2 t q3 h q4 la) K F k (kS0 K F k)) := jw_at hk rfl
  rw [h9] at hq
  rw [← hq]
  exact kIx_in hk
theorem kIx_b : ∀ i, i < 51 → kIx i < 51 := by decide
theorem kIx_c : ∀ i, i < 51 → ∀ j, j < 51 → kIx i = kIx j → i = j := by decide
theorem kIx_inj (i j : Nat) (hij : kIx i = kIx j) : i = j := by
  have hb : ∀ k, 51 ≤ k → kIx k = k := fun k hk => by unfold kIx; rw [if_neg (by omega), if_neg (by omega), if_neg (by omega)]
  by_cases h1 : i < 51 <;> by_cases h2 : j < 51
  · exact kIx_c i h1 j h2 hij
  · have := kIx_b i h1
    rw [hb j (by omega)] at hij
    omega
  · have := kIx_b j h2
    rw [hb i (by omega)] at hij
    omega
  · rw [hb i (by omega), hb j (by omega)] at hij
    exact hij
end KX
