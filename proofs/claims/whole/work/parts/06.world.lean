/-- the cells of the class's objects, by their places: 0 KindTables, 1 Examples, 2 Teller, 3 Hauls, 4 the array of laws, 5 numbers, 6 taught, 7 widths, 8 groupOf, 9 order, 10 tally, 11 rights, 12 xs, 13 ys, 14 catches; from 15 the rows of numbers, from 39 those of catches, from 51 on a Law, its lengths, its strengths for each kind -/
def kG (cI cII cL : ClassId) (ad : Nat → Nat) (K F : Nat) (k : Nat) (g : Nat → Int32) : va_E := match k with
  | 0 => .inr (0, [.int (g 0), .int (g 1), .ref (ad 1), .ref (ad 2), .ref (ad 3), .ref (ad 4)])
  | 1 => .inr (1, [.int (g 0), .ref (ad 5), .ref (ad 6), .ref (ad 7), .ref (ad 8), .int (g 5)])
  | 2 => .inr (2, [.ref (ad 1), .int (g 1), .ref (ad 9), .ref (ad 10), .ref (ad 11), .int (g 5)])
  | 3 => .inr (3, [.int (g 0), .ref (ad 12), .ref (ad 13), .ref (ad 14), .int (g 4)])
  | 4 => .inl (cL, K, .inr (.inr (.inr (.inr (fun i => if i < K then some (ad (51 + 3 * i)) else none)))))
  | 5 => .inl (cII, 24, .inr (.inr (.inr (.inr (fun i => if i < 24 then some (ad (15 + i)) else none)))))
  | 6 => .inl (cI, 24, .inl g)
  | 7 => .inl (cI, F, .inl g)
  | 8 => .inl (cI, 24, .inl g)
  | 9 => .inl (cI, K, .inl g)
  | 10 => .inl (cI, K, .inl g)
  | 11 => .inl (cI, F, .inl g)
  | 12 => .inl (cI, 12, .inl g)
  | 13 => .inl (cI, 12, .inl g)
  | 14 => .inl (cII, 12, .inr (.inr (.inr (.inr (fun i => if i < 12 then some (ad (39 + i)) else none)))))
  | n + 15 => if n < 24 then .inl (cI, F, .inl g) else if n < 36 then .inl (cI, K, .inl g) else if (n - 36) % 3 = 0 then .inr (4, [.ref (ad (n + 16)), .ref (ad (n + 17)), .int (g 2)]) else .inl (cI, 6, .inl g)
def kW (cI cII cL : ClassId) (ad : Nat → Nat) (K F : Nat) (fr : va_W) (st : jS) : va_W := jw (51 + 3 * K) ad (kG cI cII cL ad K F) st fr
def kT (cI cII cL cJ : ClassId) : List (ClassId × FieldType) := [(cI, .int), (cII, .array .int), (cL, .object "KindTables$Law"), (cJ, .long)]
section KW
variable {cI cII cL : ClassId} {ad : Nat → Nat} {K F : Nat} {fr : va_W} {st : jS} {j : Nat} {x i : Int32} {k : Nat}
theorem kA_0 : (kW cI cII cL ad K F fr st)[0]? = some (ad 0, .inr (0, [.int (st 0 0), .int (st 0 1), .ref (ad 1), .ref (ad 2), .ref (ad 3), .ref (ad 4)])) := jw_at (by omega) rfl
theorem kA_1 : (kW cI cII cL ad K F fr st)[1]? = some (ad 1, .inr (1, [.int (st 1 0), .ref (ad 5), .ref (ad 6), .ref (ad 7), .ref (ad 8), .int (st 1 5)])) := jw_at (by omega) rfl
theorem kA_2 : (kW cI cII cL ad K F fr st)[2]? = some (ad 2, .inr (2, [.ref (ad 1), .int (st 2 1), .ref (ad 9), .ref (ad 10), .ref (ad 11), .int (st 2 5)])) := jw_at (by omega) rfl
theorem kA_3 : (kW cI cII cL ad K F fr st)[3]? = some (ad 3, .inr (3, [.int (st 3 0), .ref (ad 12), .ref (ad 13), .ref (ad 14), .int (st 3 4)])) := jw_at (by omega) rfl
theorem kA_4 : (kW cI cII cL ad K F fr st)[4]? = some (ad 4, .inl (cL, K, .inr (.inr (.inr (.inr (fun i => if i < K then some (ad (51 + 3 * i)) else none)))))) := jw_at (by omega) rfl
theorem kA_5 : (kW cI cII cL ad K F fr st)[5]? = some (ad 5, .inl (cII, 24, .inr (.inr (.inr (.inr (fun i => if i < 24 then some (ad (15 + i)) else none)))))) := jw_at (by omega) rfl
theorem kA_6 : (kW cI cII cL ad K F fr st)[6]? = some (ad 6, .inl (cI, 24, .inl (st 6))) := jw_at (by omega) rfl
theorem kA_7 : (kW cI cII cL ad K F fr st)[7]? = some (ad 7, .inl (cI, F, .inl (st 7))) := jw_at (by omega) rfl
theorem kA_8 : (kW cI cII cL ad K F fr st)[8]? = some (ad 8, .inl (cI, 24, .inl (st 8))) := jw_at (by omega) rfl
theorem kA_9 : (kW cI cII cL ad K F fr st)[9]? = some (ad 9, .inl (cI, K, .inl (st 9))) := jw_at (by omega) rfl
theorem kA_10 : (kW cI cII cL ad K F fr st)[10]? = some (ad 10, .inl (cI, K, .inl (st 10))) := jw_at (by omega) rfl
theorem kA_11 : (kW cI cII cL ad K F fr st)[11]? = some (ad 11, .inl (cI, F, .inl (st 11))) := jw_at (by omega) rfl
theorem kA_12 : (kW cI cII cL ad K F fr st)[12]? = some (ad 12, .inl (cI, 12, .inl (st 12))) := jw_at (by omega) rfl
theorem kA_13 : (kW cI cII cL ad K F fr st)[13]? = some (ad 13, .inl (cI, 12, .inl (st 13))) := jw_at (by omega) rfl
theorem kA_14 : (kW cI cII cL ad K F fr st)[14]? = some (ad 14, .inl (cII, 12, .inr (.inr (.inr (.inr (fun i => if i < 12 then some (ad (39 + i)) else none)))))) := jw_at (by omega) rfl
theorem kG_num {g : Nat → Int32} {n : Nat} (h : n < 24) : kG cI cII cL ad K F (15 + n) g = .inl (cI, F, .inl g) := by
  rw [Nat.add_comm 15 n]
  show (if n < 24 then _ else _) = _
  rw [if_pos h]
theorem kG_cat {g : Nat → Int32} {n : Nat} (h : n < 12) : kG cI cII cL ad K F (39 + n) g = .inl (cI, K, .inl g) := by
  rw [show 39 + n = (24 + n) + 15 by omega]
  show (if 24 + n < 24 then _ else if 24 + n < 36 then _ else _) = _
  rw [if_neg (by omega), if_pos (by omega)]
theorem kG_law {g : Nat → Int32} : kG cI cII cL ad K F (51 + 3 * k) g = .inr (4, [.ref (ad (52 + 3 * k)), .ref (ad (53 + 3 * k)), .int (g 2)]) := by
  rw [show 51 + 3 * k = (36 + 3 * k) + 15 by omega]
  show (if 36 + 3 * k < 24 then _ else if 36 + 3 * k < 36 then _ else if (36 + 3 * k - 36) % 3 = 0 then _ else _) = _
  rw [if_neg (by omega), if_neg (by omega), if_pos (by omega), show 36 + 3 * k + 16 = 52 + 3 * k by omega, show 36 + 3 * k + 17 = 53 + 3 * k by omega]
theorem kG_len {g : Nat → Int32} : kG cI cII cL ad K F (52 + 3 * k) g = .inl (cI, 6, .inl g) := by
  rw [show 52 + 3 * k = (37 + 3 * k) + 15 by omega]
  show (if 37 + 3 * k < 24 then _ else if 37 + 3 * k < 36 then _ else if (37 + 3 * k - 36) % 3 = 0 then _ else _) = _
  rw [if_neg (by omega), if_neg (by omega), if_neg (by omega)]
theorem kG_str {g : Nat → Int32} : kG cI cII cL ad K F (53 + 3 * k) g = .inl (cI, 6, .inl g) := by
  rw [show 53 + 3 * k = (38 + 3 * k) + 15 by omega]
  show (if 38 + 3 * k < 24 then _ else if 38 + 3 * k < 36 then _ else if (38 + 3 * k - 36) % 3 = 0 then _ else _) = _
  rw [if_neg (by omega), if_neg (by omega), if_neg (by omega)]
theorem kA_rownum (h : vp_in i 24) : (kW cI cII cL ad K F fr st)[15 + (Int32.toNatClampNeg i)]? = some (ad (15 + (Int32.toNatClampNeg i)), .inl (cI, F, .inl (st (15 + (Int32.toNatClampNeg i))))) := jw_at (by have := vi_lt h; omega) (kG_num (vi_lt h))
theorem kA_rowcat (h : vp_in i 12) : (kW cI cII cL ad K F fr st)[39 + (Int32.toNatClampNeg i)]? = some (ad (39 + (Int32.toNatClampNeg i)), .inl (cI, K, .inl (st (39 + (Int32.toNatClampNeg i))))) := jw_at (by have := vi_lt h; omega) (kG_cat (vi_lt h))
theorem kA_law (h : k < K) : (kW cI cII cL ad K F fr st)[51 + 3 * k]? = some (ad (51 + 3 * k), .inr (4, [.ref (ad (52 + 3 * k)), .ref (ad (53 + 3 * k)), .int (st (51 + 3 * k) 2)])) := jw_at (by omega) kG_law
theorem kA_len (h : k < K) : (kW cI cII cL ad K F fr st)[52 + 3 * k]? = some (ad (52 + 3 * k), .inl (cI, 6, .inl (st (52 + 3 * k)))) := jw_at (by omega) kG_len
theorem kA_str (h : k < K) : (kW cI cII cL ad K F fr st)[53 + 3 * k]? = some (ad (53 + 3 * k), .inl (cI, 6, .inl (st (53 + 3 * k)))) := jw_at (by omega) kG_str
theorem kE_num (h : vp_in i 24) : (fun i : Nat => if i < 24 then some (ad (15 + i)) else none) (Int32.toNatClampNeg i) = some (ad (15 + (Int32.toNatClampNeg i))) := if_pos (vi_lt h)
theorem kE_cat (h : vp_in i 12) : (fun i : Nat => if i < 12 then some (ad (39 + i)) else none) (Int32.toNatClampNeg i) = some (ad (39 + (Int32.toNatClampNeg i))) := if_pos (vi_lt h)
theorem kE_law (h : vp_in i K) : (fun i : Nat => if i < K then some (ad (51 + 3 * i)) else none) (Int32.toNatClampNeg i) = some (ad (51 + 3 * (Int32.toNatClampNeg i))) := if_pos (vi_lt h)
theorem kP_1 {x : Int32} : (kW cI cII cL ad K F fr st).set 1 (ad 1, .inr (1, [.int (st 1 0), .ref (ad 5), .ref (ad 6), .ref (ad 7), .ref (ad 8), .int x])) = kW cI cII cL ad K F fr (jq st 1 5 x) := jw_put (by omega) rfl
theorem kP_2 {x : Int32} : (kW cI cII cL ad K F fr st).set 2 (ad 2, .inr (2, [.ref (ad 1), .int (st 2 1), .ref (ad 9), .ref (ad 10), .ref (ad 11), .int x])) = kW cI cII cL ad K F fr (jq st 2 5 x) := jw_put (by omega) rfl
theorem kP_3 {x : Int32} : (kW cI cII cL ad K F fr st).set 3 (ad 3, .inr (3, [.int (st 3 0), .ref (ad 12), .ref (ad 13), .ref (ad 14), .int x])) = kW cI cII cL ad K F fr (jq st 3 4 x) := jw_put (by omega) rfl
theorem kP_6 : (kW cI cII cL ad K F fr st).set 6 (ad 6, .inl (cI, 24, .inl (upd (st 6) j x))) = kW cI cII cL ad K F fr (jq st 6 j x) := jw_put (by omega) rfl
theorem kP_7 : (kW cI cII cL ad K F fr st).set 7 (ad 7, .inl (cI, F, .inl (upd (st 7) j x))) = kW cI cII cL ad K F fr (jq st 7 j x) := jw_put (by omega) rfl
theorem kP_8 : (kW cI cII cL ad K F fr st).set 8 (ad 8, .inl (cI, 24, .inl (upd (st 8) j x))) = kW cI cII cL ad K F fr (jq st 8 j x) := jw_put (by omega) rfl
theorem kP_9 : (kW cI cII cL ad K F fr st).set 9 (ad 9, .inl (cI, K, .inl (upd (st 9) j x))) = kW cI cII cL ad K F fr (jq st 9 j x) := jw_put (by omega) rfl
theorem kP_10 : (kW cI cII cL ad K F fr st).set 10 (ad 10, .inl (cI, K, .inl (upd (st 10) j x))) = kW cI cII cL ad K F fr (jq st 10 j x) := jw_put (by omega) rfl
theorem kP_11 : (kW cI cII cL ad K F fr st).set 11 (ad 11, .inl (cI, F, .inl (upd (st 11) j x))) = kW cI cII cL ad K F fr (jq st 11 j x) := jw_put (by omega) rfl
theorem kP_12 : (kW cI cII cL ad K F fr st).set 12 (ad 12, .inl (cI, 12, .inl (upd (st 12) j x))) = kW cI cII cL ad K F fr (jq st 12 j x) := jw_put (by omega) rfl
theorem kP_13 : (kW cI cII cL ad K F fr st).set 13 (ad 13, .inl (cI, 12, .inl (upd (st 13) j x))) = kW cI cII cL ad K F fr (jq st 13 j x) := jw_put (by omega) rfl
theorem kP_rownum (h : vp_in i 24) : (kW cI cII cL ad K F fr st).set (15 + (Int32.toNatClampNeg i)) (ad (15 + (Int32.toNatClampNeg i)), .inl (cI, F, .inl (upd (st (15 + (Int32.toNatClampNeg i))) j x))) = kW cI cII cL ad K F fr (jq st (15 + (Int32.toNatClampNeg i)) j x) := jw_put (by have := vi_lt h; omega) (kG_num (vi_lt h))
theorem kP_rowcat (h : vp_in i 12) : (kW cI cII cL ad K F fr st).set (39 + (Int32.toNatClampNeg i)) (ad (39 + (Int32.toNatClampNeg i)), .inl (cI, K, .inl (upd (st (39 + (Int32.toNatClampNeg i))) j x))) = kW cI cII cL ad K F fr (jq st (39 + (Int32.toNatClampNeg i)) j x) := jw_put (by have := vi_lt h; omega) (kG_cat (vi_lt h))
theorem kP_law {x : Int32} (h : k < K) : (kW cI cII cL ad K F fr st).set (51 + 3 * k) (ad (51 + 3 * k), .inr (4, [.ref (ad (52 + 3 * k)), .ref (ad (53 + 3 * k)), .int x])) = kW cI cII cL ad K F fr (jq st (51 + 3 * k) 2 x) := jw_put (by omega) kG_law
theorem kP_len (h : k < K) : (kW cI cII cL ad K F fr st).set (52 + 3 * k) (ad (52 + 3 * k), .inl (cI, 6, .inl (upd (st (52 + 3 * k)) j x))) = kW cI cII cL ad K F fr (jq st (52 + 3 * k) j x) := jw_put (by omega) kG_len
theorem kP_str (h : k < K) : (kW cI cII cL ad K F fr st).set (53 + 3 * k) (ad (53 + 3 * k), .inl (cI, 6, .inl (upd (st (53 + 3 * k)) j x))) = kW cI cII cL ad K F fr (jq st (53 + 3 * k) j x) := jw_put (by omega) kG_str
end KW
