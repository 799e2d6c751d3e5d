/-! ===== length ===== -/
theorem ed_is {a c z : Int} (hc : 0 < c) (h1 : z * c ≤ a) (h2 : a < z * c + c) : a / c = z := by
  have e1 : z ≤ a / c := Int.le_ediv_of_mul_le hc h1
  have e2 : a / c < z + 1 := Int.ediv_lt_of_lt_mul hc (by rw [Int.add_mul, Int.one_mul]; exact h2)
  omega
theorem fdv_toInt {A B : Int32} (hB : 0 < B.toInt) (hA : -2 ^ 30 < A.toInt) : (fdv A B).toInt = A.toInt / B.toInt := by
  unfold fdv
  by_cases h : 0 ≤ A
  · rw [if_pos h]
    rw [Int32.le_iff_toInt_le, i32_0] at h
    exact lg_idiv_nonneg h hB
  · rw [if_neg h]
    rw [Int32.le_iff_toInt_le, i32_0] at h
    have t1 : A.toInt.tdiv B.toInt = -((-A.toInt) / B.toInt) := by
      rw [← Int.tdiv_eq_ediv_of_nonneg (by omega : 0 ≤ -A.toInt), Int.neg_tdiv, Int.neg_neg]
    have q0 : 0 ≤ (-A.toInt) / B.toInt := Int.ediv_nonneg (by omega) (by omega)
    have q1 : (-A.toInt) / B.toInt ≤ -A.toInt := Int.ediv_le_self _ (by omega)
    have q2 := Int.mul_ediv_add_emod (-A.toInt) B.toInt
    have m0 := Int.emod_nonneg (-A.toInt) (by omega : B.toInt ≠ 0)
    have m1 := Int.emod_lt_of_pos (-A.toInt) hB
    have p0 : 0 ≤ B.toInt * ((-A.toInt) / B.toInt) := Int.mul_nonneg (by omega) q0
    have e1 : (A / B).toInt = -((-A.toInt) / B.toInt) := by
      rw [Int32.toInt_div, t1]
      exact Int.bmod_eq_of_le (by omega) (by omega)
    have e2 : (A / B * B).toInt = -((-A.toInt) / B.toInt) * B.toInt := by
      rw [Int32.toInt_mul, e1]
      rw [Int.neg_mul, Int.mul_comm]
      exact Int.bmod_eq_of_le (by omega) (by omega)
    have e3 : -((-A.toInt) / B.toInt) * B.toInt = A.toInt + (-A.toInt) % B.toInt := by
      rw [Int.neg_mul, Int.mul_comm]; omega
    by_cases z : A / B * B = A
    · rw [if_pos z, e1]
      have z' := congrArg Int32.toInt z
      rw [e2] at z'
      exact (ed_is hB (by omega) (by omega)).symm
    · rw [if_neg z]
      have z' : (-A.toInt) % B.toInt ≠ 0 := fun w => z (Int32.toInt_inj.mp (by rw [e2, e3]; omega))
      rw [Jvm.Kit.i32_sub, e1, i32_1]
      · refine (ed_is hB ?_ ?_).symm
        · rw [Int.sub_mul, Int.one_mul, e3]; omega
        · rw [Int.sub_mul, Int.one_mul, e3]; omega
      · rw [e1, i32_1]; omega
      · rw [e1, i32_1]; omega
section LE
variable {K F n b h : Nat} {num : Nat → Nat → Nat} {wid ord : Nat → Nat} {tau gx gy : Nat → Int32} {gr : Nat → Nat → Nat} {lr : Nat → Nat} {ll ls : Nat → Nat → Nat} {st sm : jS}
/-- the value between two points, as a number -/
theorem ivl_toInt (hv : vD K F n b h num wid ord tau gx gy gr lr ll ls) {k p x : Nat} (hp : p + 1 < lr k) (h1 : ll k p < x) (h2 : x < ll k (p + 1)) :
    ∃ w : Int, (ivl (ll k) (ls k) (nI x) p).toInt = ls k p + w ∧ w = (((ls k (p + 1) : Int) - ls k p) * ((x : Int) - ll k p)) / ((ll k (p + 1) : Int) - ll k p) := by
  obtain ⟨c6, c1, cb, cs⟩ := hv.2.2.2.2.2.2.2.2.2.2.2 k
  have b1 := cb p
  have b2 := cb (p + 1)
  have e1 : (nI (ls k (p + 1)) - nI (ls k p)).toInt = (ls k (p + 1) : Int) - ls k p := pk_sub_toInt (by omega) (by omega)
  have e2 : (nI x - nI (ll k p)).toInt = (x : Int) - ll k p := pk_sub_toInt (by omega) (by omega)
  have e3 : (nI (ll k (p + 1)) - nI (ll k p)).toInt = (ll k (p + 1) : Int) - ll k p := pk_sub_toInt (by omega) (by omega)
  have hd : ((ls k (p + 1) : Int) - ls k p).natAbs ≤ 2000 := by omega
  have he : ((x : Int) - ll k p).natAbs ≤ 1000 := by omega
  have hm : (((ls k (p + 1) : Int) - ls k p) * ((x : Int) - ll k p)).natAbs ≤ 2000 * 1000 := by
    rw [Int.natAbs_mul]; exact Nat.mul_le_mul hd he
  have e4 : ((nI (ls k (p + 1)) - nI (ls k p)) * (nI x - nI (ll k p))).toInt = ((ls k (p + 1) : Int) - ls k p) * ((x : Int) - ll k p) := by
    rw [Int32.toInt_mul, e1, e2]
    exact Int.bmod_eq_of_le (by omega) (by omega)
  have f1 := fdv_toInt (A := (nI (ls k (p + 1)) - nI (ls k p)) * (nI x - nI (ll k p))) (B := nI (ll k (p + 1)) - nI (ll k p)) (by rw [e3]; omega) (by rw [e4]; omega)
  rw [e4, e3] at f1
  refine ⟨_, ?_, rfl⟩
  have w1 : (((ls k (p + 1) : Int) - ls k p) * ((x : Int) - ll k p)) / ((ll k (p + 1) : Int) - ll k p) ≤ 2000000 := Int.ediv_le_of_le_mul (by omega) (by have : (2000000 : Int) * 1 ≤ 2000000 * ((ll k (p + 1) : Int) - ll k p) := Int.mul_le_mul_of_nonneg_left (by omega) (by omega); omega)
  have w2 : -2000000 ≤ (((ls k (p + 1) : Int) - ls k p) * ((x : Int) - ll k p)) / ((ll k (p + 1) : Int) - ll k p) := Int.le_ediv_of_mul_le (by omega) (by have : (2000000 : Int) * 1 ≤ 2000000 * ((ll k (p + 1) : Int) - ll k p) := Int.mul_le_mul_of_nonneg_left (by omega) (by omega); omega)
  unfold ivl
  rw [Jvm.Kit.i32_add, f1, nI_toInt (by omega)]
  · rw [f1, nI_toInt (by omega)]; omega
  · rw [f1, nI_toInt (by omega)]; omega
end LE
