/-- the cells of the reference's object, by their places: the object, then its arrays -/
def mG (cI : ClassId) (ad : Nat → Nat) (k : Nat) (g : Nat → Int32) : va_E := match k with
  | 0 => .inr (5, [.int (g 0), .int (g 1), .int (g 2), .ref (ad 1), .int (g 4), .ref (ad 2), .ref (ad 3), .ref (ad 4), .int (g 8), .int (g 9), .ref (ad 5), .ref (ad 6), .ref (ad 7), .ref (ad 8), .ref (ad 9), .ref (ad 10), .ref (ad 11)])
  | 1 => .inl (cI, 11, .inl g)
  | 2 => .inl (cI, 24, .inl g)
  | 3 => .inl (cI, 264, .inl g)
  | 4 => .inl (cI, 6, .inl g)
  | 5 => .inl (cI, 12, .inl g)
  | 6 => .inl (cI, 12, .inl g)
  | 7 => .inl (cI, 72, .inl g)
  | 8 => .inl (cI, 6, .inl g)
  | 9 => .inl (cI, 36, .inl g)
  | 10 => .inl (cI, 36, .inl g)
  | _ => .inl (cI, 24, .inl g)
def mW (cI : ClassId) (ad : Nat → Nat) (fr : va_W) (st : jS) : va_W := jw 12 ad (mG cI ad) st fr
section MW
variable {cI : ClassId} {ad : Nat → Nat} {fr : va_W} {st : jS} {j : Nat} {x : Int32}
theorem mA_0 : (mW cI ad fr st)[0]? = some (ad 0, .inr (5, [.int (st 0 0), .int (st 0 1), .int (st 0 2), .ref (ad 1), .int (st 0 4), .ref (ad 2), .ref (ad 3), .ref (ad 4), .int (st 0 8), .int (st 0 9), .ref (ad 5), .ref (ad 6), .ref (ad 7), .ref (ad 8), .ref (ad 9), .ref (ad 10), .ref (ad 11)])) := jw_at (by omega) rfl
theorem mA_1 : (mW cI ad fr st)[1]? = some (ad 1, .inl (cI, 11, .inl (st 1))) := jw_at (by omega) rfl
theorem mP_1 : (mW cI ad fr st).set 1 (ad 1, .inl (cI, 11, .inl (upd (st 1) j x))) = mW cI ad fr (jq st 1 j x) := jw_put (by omega) rfl
theorem mA_2 : (mW cI ad fr st)[2]? = some (ad 2, .inl (cI, 24, .inl (st 2))) := jw_at (by omega) rfl
theorem mP_2 : (mW cI ad fr st).set 2 (ad 2, .inl (cI, 24, .inl (upd (st 2) j x))) = mW cI ad fr (jq st 2 j x) := jw_put (by omega) rfl
theorem mA_3 : (mW cI ad fr st)[3]? = some (ad 3, .inl (cI, 264, .inl (st 3))) := jw_at (by omega) rfl
theorem mP_3 : (mW cI ad fr st).set 3 (ad 3, .inl (cI, 264, .inl (upd (st 3) j x))) = mW cI ad fr (jq st 3 j x) := jw_put (by omega) rfl
theorem mA_4 : (mW cI ad fr st)[4]? = some (ad 4, .inl (cI, 6, .inl (st 4))) := jw_at (by omega) rfl
theorem mP_4 : (mW cI ad fr st).set 4 (ad 4, .inl (cI, 6, .inl (upd (st 4) j x))) = mW cI ad fr (jq st 4 j x) := jw_put (by omega) rfl
theorem mA_5 : (mW cI ad fr st)[5]? = some (ad 5, .inl (cI, 12, .inl (st 5))) := jw_at (by omega) rfl
theorem mP_5 : (mW cI ad fr st).set 5 (ad 5, .inl (cI, 12, .inl (upd (st 5) j x))) = mW cI ad fr (jq st 5 j x) := jw_put (by omega) rfl
theorem mA_6 : (mW cI ad fr st)[6]? = some (ad 6, .inl (cI, 12, .inl (st 6))) := jw_at (by omega) rfl
theorem mP_6 : (mW cI ad fr st).set 6 (ad 6, .inl (cI, 12, .inl (upd (st 6) j x))) = mW cI ad fr (jq st 6 j x) := jw_put (by omega) rfl
theorem mA_7 : (mW cI ad fr st)[7]? = some (ad 7, .inl (cI, 72, .inl (st 7))) := jw_at (by omega) rfl
theorem mP_7 : (mW cI ad fr st).set 7 (ad 7, .inl (cI, 72, .inl (upd (st 7) j x))) = mW cI ad fr (jq st 7 j x) := jw_put (by omega) rfl
theorem mA_8 : (mW cI ad fr st)[8]? = some (ad 8, .inl (cI, 6, .inl (st 8))) := jw_at (by omega) rfl
theorem mP_8 : (mW cI ad fr st).set 8 (ad 8, .inl (cI, 6, .inl (upd (st 8) j x))) = mW cI ad fr (jq st 8 j x) := jw_put (by omega) rfl
theorem mA_9 : (mW cI ad fr st)[9]? = some (ad 9, .inl (cI, 36, .inl (st 9))) := jw_at (by omega) rfl
theorem mP_9 : (mW cI ad fr st).set 9 (ad 9, .inl (cI, 36, .inl (upd (st 9) j x))) = mW cI ad fr (jq st 9 j x) := jw_put (by omega) rfl
theorem mA_10 : (mW cI ad fr st)[10]? = some (ad 10, .inl (cI, 36, .inl (st 10))) := jw_at (by omega) rfl
theorem mP_10 : (mW cI ad fr st).set 10 (ad 10, .inl (cI, 36, .inl (upd (st 10) j x))) = mW cI ad fr (jq st 10 j x) := jw_put (by omega) rfl
theorem mA_11 : (mW cI ad fr st)[11]? = some (ad 11, .inl (cI, 24, .inl (st 11))) := jw_at (by omega) rfl
theorem mP_11 : (mW cI ad fr st).set 11 (ad 11, .inl (cI, 24, .inl (upd (st 11) j x))) = mW cI ad fr (jq st 11 j x) := jw_put (by omega) rfl
theorem mP_0_0 : (mW cI ad fr st).set 0 (ad 0, .inr (5, [.int x, .int (st 0 1), .int (st 0 2), .ref (ad 1), .int (st 0 4), .ref (ad 2), .ref (ad 3), .ref (ad 4), .int (st 0 8), .int (st 0 9), .ref (ad 5), .ref (ad 6), .ref (ad 7), .ref (ad 8), .ref (ad 9), .ref (ad 10), .ref (ad 11)])) = mW cI ad fr (jq st 0 0 x) := jw_put (by omega) rfl
theorem mP_0_1 : (mW cI ad fr st).set 0 (ad 0, .inr (5, [.int (st 0 0), .int x, .int (st 0 2), .ref (ad 1), .int (st 0 4), .ref (ad 2), .ref (ad 3), .ref (ad 4), .int (st 0 8), .int (st 0 9), .ref (ad 5), .ref (ad 6), .ref (ad 7), .ref (ad 8), .ref (ad 9), .ref (ad 10), .ref (ad 11)])) = mW cI ad fr (jq st 0 1 x) := jw_put (by omega) rfl
theorem mP_0_2 : (mW cI ad fr st).set 0 (ad 0, .inr (5, [.int (st 0 0), .int (st 0 1), .int x, .ref (ad 1), .int (st 0 4), .ref (ad 2), .ref (ad 3), .ref (ad 4), .int (st 0 8), .int (st 0 9), .ref (ad 5), .ref (ad 6), .ref (ad 7), .ref (ad 8), .ref (ad 9), .ref (ad 10), .ref (ad 11)])) = mW cI ad fr (jq st 0 2 x) := jw_put (by omega) rfl
theorem mP_0_4 : (mW cI ad fr st).set 0 (ad 0, .inr (5, [.int (st 0 0), .int (st 0 1), .int (st 0 2), .ref (ad 1), .int x, .ref (ad 2), .ref (ad 3), .ref (ad 4), .int (st 0 8), .int (st 0 9), .ref (ad 5), .ref (ad 6), .ref (ad 7), .ref (ad 8), .ref (ad 9), .ref (ad 10), .ref (ad 11)])) = mW cI ad fr (jq st 0 4 x) := jw_put (by omega) rfl
theorem mP_0_8 : (mW cI ad fr st).set 0 (ad 0, .inr (5, [.int (st 0 0), .int (st 0 1), .int (st 0 2), .ref (ad 1), .int (st 0 4), .ref (ad 2), .ref (ad 3), .ref (ad 4), .int x, .int (st 0 9), .ref (ad 5), .ref (ad 6), .ref (ad 7), .ref (ad 8), .ref (ad 9), .ref (ad 10), .ref (ad 11)])) = mW cI ad fr (jq st 0 8 x) := jw_put (by omega) rfl
theorem mP_0_9 : (mW cI ad fr st).set 0 (ad 0, .inr (5, [.int (st 0 0), .int (st 0 1), .int (st 0 2), .ref (ad 1), .int (st 0 4), .ref (ad 2), .ref (ad 3), .ref (ad 4), .int (st 0 8), .int x, .ref (ad 5), .ref (ad 6), .ref (ad 7), .ref (ad 8), .ref (ad 9), .ref (ad 10), .ref (ad 11)])) = mW cI ad fr (jq st 0 9 x) := jw_put (by omega) rfl
end MW
theorem jr_narz {v : Int32} (h : v = 0 ∨ v = 1) : narrow .boolean (.int v) = .int v := by rcases h with rfl | rfl <;> rfl
