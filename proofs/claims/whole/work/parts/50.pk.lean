def eX (l s : Nat → Nat) (T p : Nat) : Nat := ((T - s p) * (l (p + 1) - l p) + (s (p + 1) - s p) - 1) / (s (p + 1) - s p)
section LG
variable {K F n b h : Nat} {num : Nat → Nat → Nat} {wid ord : Nat → Nat} {tau gx gy : Nat → Int32} {gr : Nat → Nat → Nat} {lr : Nat → Nat} {ll ls : Nat → Nat → Nat} {st sm : jS}
theorem kx_len {k : Nat} {t : Int32} {post : Int32 → jS → Prop} (hv : vD K F n b h num wid ord tau gx gy gr lr ll ls) (hk : kD K F n b h num wid ord tau gx gy gr lr ll ls st) (hk9 : k < K)
    (hp0 : (∀ r, r < lr k → nI (ls k r) < t) → post (-1) st)
    (hp1 : 0 < lr k → ¬ nI (ls k 0) < t → post (nI (ll k 0)) st)
    (hp2 : ∀ p T, p + 1 < lr k → (∀ j, j ≤ p → nI (ls k j) < t) → t = nI T → ls k p < T → T ≤ ls k (p + 1) → post (nI (ll k p + eX (ll k) (ls k) T p)) st) : wp_La_leastLength K F k st t post := by
  obtain ⟨c6, c1, cb, cs⟩ := hv.2.2.2.2.2.2.2.2.2.2.2 k
  obtain ⟨hc, hl⟩ := hk.2.2.2.2.2.2.2.2.2.2 k hk9
  have L : ∀ m r, r + m = lr k → (∀ j, j < r → nI (ls k j) < t) → wp_La_leastLength_2 K F k post (m + 1) st t (nI r) := by
    intro m
    induction m with
    | zero =>
      intro r e hb
      have e : r = lr k := by omega
      subst e
      exact ⟨fun _ => hp0 hb, fun q => absurd (by rw [hc]; exact Int32.le_refl _) q⟩
    | succ m ih =>
      intro r e hb
      have vr : vp_in (nI r) 6 := vp_in_nI (by omega) (by omega)
      refine ⟨fun q => absurd q (by rw [hc]; exact nI_ge (by omega) (by omega)), fun _ => ⟨vr, ?_⟩⟩
      rw [nI_clamp (by omega), (hl r (by omega)).1, (hl r (by omega)).2]
      refine ⟨fun q => ?_, fun q => ⟨fun q1 => ?_, fun q1 => ⟨vr, ?_⟩⟩⟩
      · rw [nI_1]
        refine ih (r + 1) (by omega) (fun j hj => ?_)
        by_cases ej : j = r
        · rw [ej]; exact q
        · exact hb j (by omega)
      · have r1 : 1 ≤ r := (nI_leI (a := 1) (by omega) (by omega)).mp q1
        obtain ⟨p, rfl⟩ : ∃ p, r = p + 1 := ⟨r - 1, by omega⟩
        have b1 := cb p
        have b2 := cb (p + 1)
        have s1 := cs p (by omega)
        have tp := hb p (by omega)
        obtain ⟨T, hT, rfl⟩ : ∃ T : Nat, T < 2 ^ 31 ∧ t = nI T := nI_of (by
          rw [Int32.lt_iff_toInt_lt, nI_toInt (by omega)] at tp
          rw [Int32.lt_iff_toInt_lt, i32_0]
          omega)
        have T1 : ls k p < T := (nI_ltI (by omega) hT).mp tp
        have T2 : T ≤ ls k (p + 1) := by
          have := mt (nI_ltI (a := ls k (p + 1)) (by omega) hT).mpr q
          omega
        have vp : vp_in (nI p) 6 := vp_in_nI (by omega) (by omega)
        have M : (T - ls k p) * (ll k (p + 1) - ll k p) ≤ 2000 * 1000 := Nat.mul_le_mul (by omega) (by omega)
        unfold wp_La_leastLengthBefore
        rw [nI_pred, nI_clamp (show p + 1 < 2 ^ 31 by omega), nI_clamp (show p < 2 ^ 31 by omega), (hl p (by omega)).1, (hl p (by omega)).2, (hl (p + 1) (by omega)).1, (hl (p + 1) (by omega)).2, pk_sub (show ls k p ≤ ls k (p + 1) by omega), pk_sub (show ls k p ≤ T by omega), pk_sub (show ll k p ≤ ll k (p + 1) by omega), pk_mul, nI_add, show (1 : Int32) = nI 1 from rfl, pk_sub (show 1 ≤ (T - ls k p) * (ll k (p + 1) - ll k p) + (ls k (p + 1) - ls k p) by omega), pk_div (by omega) (by omega) (by omega), nI_add]
        exact ⟨vr, vp, vr, vp, vp, fun _ => ⟨vp, nI_ne0 (by omega) (by omega), hp2 p T (by omega) (fun j hj => hb j (by omega)) rfl T1 T2⟩, fun q1 => absurd ((nI_leI (a := 1) (b := ls k (p + 1) - ls k p) (by omega) (by omega)).mpr (by omega)) q1⟩
      · have r1 : r = 0 := by
          have := mt (nI_leI (a := 1) (b := r) (by omega) (by omega)).mpr q1
          omega
        subst r1
        exact hp1 (by omega) q
  exact ⟨lr k + 1, L (lr k) 0 (by omega) (fun j hj => absurd hj (by omega))⟩
end LG
theorem p_22 (K F : Nat) : lOwe wc_22 K F (Rl K F) := by
  intro st f sm a1 a2 a3 a4 hR
  obtain ⟨n, b, h, num, wid, ord, tau, gx, gy, gr, lr, ll, ls, hv, hk, hm⟩ := id hR
  obtain ⟨v0, v1, v2, v3, v4, v5, v6, v7, v8, v9, v10, v11⟩ := id hv
  have hK9 : sm 0 1 = nI K := hm.1.1
  have hm0 := mD_thr 0 hm
  unfold wc_22 wp_Lw_length wp_KT_length
  rcases ix_cases a1 (n := K) (by omega) with hx | ⟨k, hk9, rfl⟩
  · refine nx_bad hk.1.1 hx ⟨rfl, ?_⟩
    show wp_Mo_length sm a1 a2 _
    unfold wp_Mo_length
    refine mk_0 hK9 (by omega) hx ⟨fun v => v = 1, ?_, fun q => absurd rfl q, fun _ => rfl⟩
    rintro v rfl
    exact th_p (by decide) (fin_x (by decide) hR)
  · obtain ⟨c6, c1, cb, cs⟩ := v11 k
    refine nx_ok hk.1.1 hk9 (by omega) ⟨vp_in_nI hk9 (by omega), ?_⟩
    rw [nI_clamp (by omega)]
    have GO : ∀ (X : Nat), 1 ≤ X → X ≤ 1001 → (∀ x, x < X → stv (ll k) (ls k) (nI x) (lr k) 0 = -1 ∨ stv (ll k) (ls k) (nI x) (lr k) 0 < a2) → (X ≤ 1000 → ¬ stv (ll k) (ls k) (nI X) (lr k) 0 = -1 ∧ ¬ stv (ll k) (ls k) (nI X) (lr k) 0 < a2) → wp_Mo_length sm (nI k) a2 (fun r3 u4 => wp_Mo_thrown u4 (fun r5 u6 => r5 = 0 ∧ ((0 : Int32) = 0 → (vp_updL f (Int32.toNatClampNeg 0) (if X ≤ 1000 then nI X else -1 : Int32).toInt64) (Int32.toNatClampNeg 0) = r3.toInt64) ∧ Rl K F st u6)) := by
      intro X X1 X2 hlow hat
      unfold wp_Mo_length
      refine mk_1 hK9 hk9 (by omega) ⟨fun v => v = 0, ?_, fun _ => rfl, fun q => absurd q (by decide)⟩
      rintro v rfl
      exact th_0 (mx_len hv hm0 hk9 X X1 X2 hlow hat (fin_v (f := f) (Rl_thr 0 hR) jq_s))
    refine kx_len hv hk hk9 (fun hall => ?_) (fun c0 h0 => ?_) (fun p T hp hb hT T1 T2 => ?_)
    · have g := GO 1001 (by omega) (by omega) (fun x hx => ?_) (fun z => absurd z (by omega))
      · rw [if_neg (by omega)] at g; exact g
      · rcases Nat.eq_zero_or_pos (lr k) with e | e
        · rw [e]; exact Or.inl rfl
        · have bl := cb (lr k - 1)
          rcases Nat.lt_or_ge (ll k (lr k - 1)) x with q | q
          · refine Or.inl (stv_hi (ll k) (ls k) (nI x) (lr k) 0 (fun i hi => nI_lt ?_ (by omega)))
            have := ll_mono hv k (i := i) (j := lr k - 1) (by omega) (by omega)
            omega
          · exact V_low hv (by omega) q (fun j hj => hall j (by omega))
    · have b0 := cb 0
      have l0 := c1 0 c0
      have g := GO (ll k 0) l0 (by omega) (fun x hx => ?_) (fun _ => ?_)
      · rw [if_pos b0.1] at g; exact g
      · rw [stv_nat hv c0 (by omega) (fun j hj => absurd hj (by omega)) (by omega), if_neg (by omega), if_pos rfl]
        exact Or.inl rfl
      · rw [stv_nat hv c0 (by omega) (fun j hj => absurd hj (by omega)) (Nat.le_refl _), if_pos rfl]
        refine ⟨fun z => ?_, h0⟩
        have := congrArg Int32.toInt z
        rw [nI_toInt (by omega), show (-1 : Int32).toInt = -1 by decide] at this
        omega
    · subst hT
      have b1 := cb p
      have b2 := cb (p + 1)
      have s1 := cs p hp
      have l1 := c1 p (by omega)
      have M : (T - ls k p) * (ll k (p + 1) - ll k p) ≤ (ls k (p + 1) - ls k p) * (ll k (p + 1) - ll k p) := Nat.mul_le_mul_right _ (by omega)
      have M0 : 1 ≤ (T - ls k p) * (ll k (p + 1) - ll k p) := Nat.mul_le_mul (show 1 ≤ T - ls k p by omega) (show 1 ≤ ll k (p + 1) - ll k p by omega)
      have d0 : 0 < ls k (p + 1) - ls k p := by omega
      have E1 : eX (ll k) (ls k) T p * (ls k (p + 1) - ls k p) ≤ (T - ls k p) * (ll k (p + 1) - ll k p) + (ls k (p + 1) - ls k p) - 1 := Nat.div_mul_le_self _ _
      have E2 : (T - ls k p) * (ll k (p + 1) - ll k p) + (ls k (p + 1) - ls k p) - 1 < (eX (ll k) (ls k) T p + 1) * (ls k (p + 1) - ls k p) := by
        have := Nat.lt_mul_div_succ ((T - ls k p) * (ll k (p + 1) - ll k p) + (ls k (p + 1) - ls k p) - 1) d0
        rw [Nat.mul_comm (eX (ll k) (ls k) T p + 1)]
        exact this
      rw [Nat.add_mul, Nat.one_mul] at E2
      have E3 : (T - ls k p) * (ll k (p + 1) - ll k p) ≤ eX (ll k) (ls k) T p * (ls k (p + 1) - ls k p) := by omega
      have E0 : 1 ≤ eX (ll k) (ls k) T p := by
        rcases Nat.eq_zero_or_pos (eX (ll k) (ls k) T p) with e | e
        · rw [e] at E3; omega
        · exact e
      have E4 : eX (ll k) (ls k) T p ≤ ll k (p + 1) - ll k p := by
        rcases Nat.lt_or_ge (ll k (p + 1) - ll k p) (eX (ll k) (ls k) T p) with q | q
        · have z : (ll k (p + 1) - ll k p + 1) * (ls k (p + 1) - ls k p) ≤ eX (ll k) (ls k) T p * (ls k (p + 1) - ls k p) := Nat.mul_le_mul_right _ q
          rw [Nat.add_mul, Nat.one_mul, Nat.mul_comm (ll k (p + 1) - ll k p)] at z
          omega
        · exact q
      generalize eX (ll k) (ls k) T p = E at *
      have cu : ((T - ls k p : Nat) : Int) = (T : Int) - ls k p := by omega
      have cB : ((ll k (p + 1) - ll k p : Nat) : Int) = (ll k (p + 1) : Int) - ll k p := by omega
      have cd : ((ls k (p + 1) - ls k p : Nat) : Int) = (ls k (p + 1) : Int) - ls k p := by omega
      have mono : ∀ j, j < p + 1 → ll k j ≤ ll k p := fun j hj => ll_mono hv k (by omega) (by omega)
      have nm : ∀ v : Int32, 0 ≤ v.toInt → ¬ v = -1 := fun v h0 z => by rw [z] at h0; exact absurd h0 (by decide)
      have g := GO (ll k p + E) (by omega) (by omega) (fun x hx => ?_) (fun _ => ?_)
      · rw [if_pos (by omega)] at g; exact g
      · rcases Nat.lt_or_ge (ll k p) x with q | q
        · rw [stv_nat hv hp (by omega) (fun j hj => by have := mono j hj; omega) (by omega), if_neg (by omega), if_neg (by omega), Nat.add_sub_cancel]
          obtain ⟨w, e1, e2⟩ := ivl_toInt hv (k := k) (p := p) (x := x) hp q (by omega)
          refine Or.inr ?_
          rw [Int32.lt_iff_toInt_lt, e1, nI_toInt (by omega)]
          have m1 : (x - ll k p + 1) * (ls k (p + 1) - ls k p) ≤ E * (ls k (p + 1) - ls k p) := Nat.mul_le_mul_right _ (by omega)
          rw [Nat.add_mul, Nat.one_mul] at m1
          have m2 : (x - ll k p) * (ls k (p + 1) - ls k p) < (T - ls k p) * (ll k (p + 1) - ll k p) := by omega
          have m3 := Int.ofNat_lt.mpr m2
          rw [Int.natCast_mul, Int.natCast_mul, cu, cB, cd, show ((x - ll k p : Nat) : Int) = (x : Int) - ll k p by omega, Int.mul_comm ((x : Int) - ll k p)] at m3
          have : w < (T : Int) - ls k p := by rw [e2]; exact Int.ediv_lt_of_lt_mul (by omega) m3
          omega
        · exact V_low hv (by omega) q hb
      · by_cases eE : E = ll k (p + 1) - ll k p
        · rw [stv_nat hv hp (by omega) (fun j hj => by have := mono j hj; omega) (by omega), if_pos (by omega)]
          exact ⟨nm _ (by rw [nI_toInt (by omega)]; omega), nI_nlt T2 (by omega)⟩
        · rw [stv_nat hv hp (by omega) (fun j hj => by have := mono j hj; omega) (by omega), if_neg (by omega), if_neg (by omega), Nat.add_sub_cancel]
          obtain ⟨w, e1, e2⟩ := ivl_toInt hv (k := k) (p := p) (x := ll k p + E) hp (by omega) (by omega)
          have m3 := Int.ofNat_le.mpr E3
          rw [Int.natCast_mul, Int.natCast_mul, cu, cB, cd, show ((E : Nat) : Int) = ((ll k p + E : Nat) : Int) - ll k p by omega, Int.mul_comm (((ll k p + E : Nat) : Int) - ll k p)] at m3
          have : (T : Int) - ls k p ≤ w := by rw [e2]; exact Int.le_ediv_of_mul_le (by omega) m3
          refine ⟨nm _ (by rw [e1]; omega), fun z => ?_⟩
          rw [Int32.lt_iff_toInt_lt, e1, nI_toInt (by omega)] at z
          omega
