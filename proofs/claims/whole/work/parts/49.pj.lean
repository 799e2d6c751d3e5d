theorem stv_at (l s : Nat → Nat) (x : Int32) (i : Nat) (m : Nat) : ∀ r, r ≤ i → i < r + m → (∀ j, r ≤ j → j < i → nI (l j) < x) → ¬ nI (l i) < x → stv l s x m r = if x = nI (l i) then nI (s i) else if i = 0 then -1 else ivl l s x (i - 1) := by
  induction m with
  | zero => intro r h1 h2; omega
  | succ m ih =>
    intro r h1 h2 hb hn
    unfold stv
    by_cases e : r = i
    · subst e
      rw [if_neg hn]
    · rw [if_pos (hb r (by omega) (by omega))]
      exact ih (r + 1) (by omega) (by omega) (fun j a c => hb j (by omega) c) hn
section LF
variable {K F n b h : Nat} {num : Nat → Nat → Nat} {wid ord : Nat → Nat} {tau gx gy : Nat → Int32} {gr : Nat → Nat → Nat} {lr : Nat → Nat} {ll ls : Nat → Nat → Nat} {st sm : jS}
/-- the strength at a whole number, by the first point not below it -/
theorem stv_nat (hv : vD K F n b h num wid ord tau gx gy gr lr ll ls) {k i x : Nat} (hi : i < lr k) (hx : x ≤ 1000) (hb : ∀ j, j < i → ll k j < x) (hn : x ≤ ll k i) : stv (ll k) (ls k) (nI x) (lr k) 0 = if x = ll k i then nI (ls k i) else if i = 0 then -1 else ivl (ll k) (ls k) (nI x) (i - 1) := by
  obtain ⟨c6, c1, cb, cs⟩ := hv.2.2.2.2.2.2.2.2.2.2.2 k
  have b1 := cb i
  rw [stv_at (ll k) (ls k) (nI x) i (lr k) 0 (by omega) (by omega) (fun j _ hj => nI_lt (hb j hj) (by omega)) (nI_nlt hn (by omega))]
  by_cases e : x = ll k i
  · rw [if_pos e, if_pos (congrArg nI e)]
  · rw [if_neg e, if_neg (fun z => e ((nI_eq (by omega) (by omega)).mp z))]
/-- where every point up to r is below t, every strength up to it is -/
theorem V_low (hv : vD K F n b h num wid ord tau gx gy gr lr ll ls) {k r x : Nat} {t : Int32} (hr : r < lr k) (hx : x ≤ ll k r) (ht : ∀ j, j ≤ r → nI (ls k j) < t) : stv (ll k) (ls k) (nI x) (lr k) 0 = -1 ∨ stv (ll k) (ls k) (nI x) (lr k) 0 < t := by
  obtain ⟨c6, c1, cb, cs⟩ := hv.2.2.2.2.2.2.2.2.2.2.2 k
  obtain ⟨i, hi, hmin⟩ := pk_least (fun i => x ≤ ll k i) ⟨r, hx⟩
  have hir : i ≤ r := by
    rcases Nat.lt_or_ge r i with q | q
    · exact absurd hx (hmin r q)
    · exact q
  have hb : ∀ j, j < i → ll k j < x := fun j hj => Nat.lt_of_not_le (hmin j hj)
  have b0 := cb r
  rw [stv_nat hv (by omega) (by omega) hb hi]
  by_cases e : x = ll k i
  · rw [if_pos e]; exact Or.inr (ht i hir)
  · rw [if_neg e]
    by_cases e0 : i = 0
    · rw [if_pos e0]; exact Or.inl rfl
    · rw [if_neg e0]
      obtain ⟨p, rfl⟩ : ∃ p, i = p + 1 := ⟨i - 1, by omega⟩
      rw [Nat.add_sub_cancel]
      have l1 := hb p (by omega)
      obtain ⟨w, e1, e2⟩ := ivl_toInt hv (k := k) (p := p) (x := x) (by omega) l1 (by omega)
      have t1 := ht p (by omega)
      have t2 := ht (p + 1) hir
      have c1 := cb p
      have c2 := cb (p + 1)
      refine Or.inr ?_
      rw [Int32.lt_iff_toInt_lt, nI_toInt (by omega)] at t1 t2
      rw [Int32.lt_iff_toInt_lt, e1]
      have hB : 0 < (ll k (p + 1) : Int) - ll k p := by omega
      rcases Int.le_total ((ls k (p + 1) : Int) - ls k p) 0 with d | d
      · have m := Int.mul_nonpos_of_nonpos_of_nonneg d (by omega : 0 ≤ (x : Int) - ll k p)
        have : w ≤ 0 := by rw [e2]; exact Int.ediv_le_of_le_mul hB (by omega)
        omega
      · have m := Int.mul_le_mul_of_nonneg_left (by omega : (x : Int) - ll k p ≤ (ll k (p + 1) : Int) - ll k p) d
        have : w ≤ (ls k (p + 1) : Int) - ls k p := by rw [e2]; exact Int.ediv_le_of_le_mul hB m
        omega
theorem mx_len {k : Nat} {t : Int32} {post : Int32 → jS → Prop} (hv : vD K F n b h num wid ord tau gx gy gr lr ll ls) (hm : mD K F n b h num wid ord tau gx gy gr lr ll ls sm) (hk9 : k < K) (X : Nat) (hX1 : 1 ≤ X) (hX : X ≤ 1001) (hlow : ∀ x, x < X → stv (ll k) (ls k) (nI x) (lr k) 0 = -1 ∨ stv (ll k) (ls k) (nI x) (lr k) 0 < t)
    (hat : X ≤ 1000 → ¬ stv (ll k) (ls k) (nI X) (lr k) 0 = -1 ∧ ¬ stv (ll k) (ls k) (nI X) (lr k) 0 < t) (hp : post (if X ≤ 1000 then nI X else -1) sm) : ∃ N, wp_Mo_length_28 post N sm (nI k) t (1 : Int32) := by
  have L : ∀ m x, 1 ≤ x → x + m = X → wp_Mo_length_28 post (m + 1) sm (nI k) t (nI x) := by
    intro m
    induction m with
    | zero =>
      intro x h1 e
      have e : x = X := by omega
      subst e
      refine ⟨fun q => ?_, fun q => ?_⟩
      · have : 1000 < x := (nI_ltI (a := 1000) (by omega) (by omega)).mp q
        rw [if_neg (by omega)] at hp; exact hp
      · have x1 : x ≤ 1000 := by
          have := mt (nI_ltI (a := 1000) (b := x) (by omega) (by omega)).mpr q
          omega
        rw [if_pos x1] at hp
        have := hat x1
        exact mx_st hv hm hk9 ⟨fun z => absurd z this.1, fun _ => ⟨fun z => absurd z this.2, fun _ => hp⟩⟩
    | succ m ih =>
      intro x h1 e
      have I := ih (x + 1) (by omega) (by omega)
      rw [← nI_1] at I
      refine ⟨fun q => absurd q (nI_nlt (a := 1000) (by omega) (by omega)), fun _ => mx_st hv hm hk9 ⟨fun _ => I, fun q => ⟨fun _ => I, fun q1 => ?_⟩⟩⟩
      exact absurd (hlow x (by omega)) (fun z => z.elim q q1)
  exact ⟨X - 1 + 1, L (X - 1) 1 (by omega) (by omega)⟩
end LF
