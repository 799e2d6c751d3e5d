/-! ===== share ===== -/
theorem sq32 {a : Int32} {m : Nat} (h : a.toInt.natAbs = m) (hm : m ≤ 200) : a * a = nI (m * m) := by
  have hq : m * m ≤ 200 * 200 := Nat.mul_le_mul hm hm
  apply Int32.toInt_inj.mp
  rw [Int32.toInt_mul, ← Int.natAbs_mul_self, h, nI_toInt (by omega)]
  generalize m * m = q at hq
  exact Int.bmod_eq_of_le (by omega) (by omega)
theorem sq64 {a : Int32} {m : Nat} (h : a.toInt.natAbs = m) (hm : m ≤ 200) : a.toInt64 * a.toInt64 = lN (m * m) := by
  have hq : m * m ≤ 200 * 200 := Nat.mul_le_mul hm hm
  apply Int64.toInt_inj.mp
  rw [Int64.toInt_mul, Int32.toInt_toInt64, ← Int.natAbs_mul_self, h, lN_toInt (by omega)]
  generalize m * m = q at hq
  exact Int.bmod_eq_of_le (by omega) (by omega)
def qd (gx gy : Nat → Int32) (x y : Int32) (i : Nat) : Nat := (gx i - x).toInt.natAbs * (gx i - x).toInt.natAbs + (gy i - y).toInt.natAbs * (gy i - y).toInt.natAbs
def ag (gr : Nat → Nat → Nat) (i : Nat) : Nat → Nat
  | 0 => 0
  | k + 1 => ag gr i k + gr i k
theorem df_le {g x : Int32} (hg : -100 ≤ g.toInt ∧ g.toInt ≤ 100) (hx : -100 ≤ x.toInt ∧ x.toInt ≤ 100) : (g - x).toInt.natAbs ≤ 200 := by
  rw [Jvm.Kit.i32_sub] <;> omega
section SH
variable {K F n b h : Nat} {num : Nat → Nat → Nat} {wid ord : Nat → Nat} {tau gx gy : Nat → Int32} {gr : Nat → Nat → Nat} {lr : Nat → Nat} {ll ls : Nat → Nat → Nat} {st sm : jS} {x y : Int32}
theorem ag_le (hv : vD K F n b h num wid ord tau gx gy gr lr ll ls) (i k : Nat) : ag gr i k ≤ 1000 * k := by
  induction k with
  | zero => exact Nat.le_refl _
  | succ k ih =>
    have := hv.2.2.2.2.2.2.2.2.2.2.1 i k
    unfold ag
    omega
theorem qd_le (hv : vD K F n b h num wid ord tau gx gy gr lr ll ls) (hx : -100 ≤ x.toInt ∧ x.toInt ≤ 100) (hy : -100 ≤ y.toInt ∧ y.toInt ≤ 100) (i : Nat) : qd gx gy x y i ≤ 80000 := by
  have g := hv.2.2.2.2.2.2.2.2.2.1 i
  have h1 := Nat.mul_le_mul (df_le g.1 hx) (df_le g.1 hx)
  have h2 := Nat.mul_le_mul (df_le g.2 hy) (df_le g.2 hy)
  unfold qd
  omega
theorem kx_qd {i : Nat} {post : Int32 → jS → Prop} (hv : vD K F n b h num wid ord tau gx gy gr lr ll ls) (hk : kD K F n b h num wid ord tau gx gy gr lr ll ls st) (hx : -100 ≤ x.toInt ∧ x.toInt ≤ 100) (hy : -100 ≤ y.toInt ∧ y.toInt ≤ 100) (hi : i < 12) (hp : post (nI (qd gx gy x y i)) st) : wp_Ha_squareTo K F st (nI i) x y post := by
  have g := hv.2.2.2.2.2.2.2.2.2.1 i
  refine ⟨vp_in_nI hi (by omega), vp_in_nI hi (by omega), ?_⟩
  rw [nI_clamp (by omega), (hk.2.2.2.2.2.2.2.2.1 i hi).1, (hk.2.2.2.2.2.2.2.2.1 i hi).2]
  unfold wp_KT_square
  rw [sq32 rfl (df_le g.1 hx), sq32 rfl (df_le g.2 hy)]
  show post (nI _ + nI _) st
  rw [nI_add]
  exact hp
theorem mx_qd {i : Nat} {post : Int64 → jS → Prop} (hv : vD K F n b h num wid ord tau gx gy gr lr ll ls) (hm : mD K F n b h num wid ord tau gx gy gr lr ll ls sm) (hx : -100 ≤ x.toInt ∧ x.toInt ≤ 100) (hy : -100 ≤ y.toInt ∧ y.toInt ≤ 100) (hi : i < 12) (hp : post (lN (qd gx gy x y i)) sm) : wp_Mo_square sm (nI i) x y post := by
  have g := hv.2.2.2.2.2.2.2.2.2.1 i
  have v : vp_in (nI i) 12 := vp_in_nI hi (by omega)
  refine ⟨v, v, v, v, ?_⟩
  rw [nI_clamp (by omega), (hm.2.2.2.2.2.2.1 i hi).1, (hm.2.2.2.2.2.2.1 i hi).2, sq64 rfl (df_le g.1 hx), sq64 rfl (df_le g.2 hy), lN_add]
  exact hp
theorem kx_ag {i : Nat} {post : Int32 → jS → Prop} (hv : vD K F n b h num wid ord tau gx gy gr lr ll ls) (hk : kD K F n b h num wid ord tau gx gy gr lr ll ls st) (hi : i < 12) (hp : post (nI (ag gr i K)) st) : wp_Ha_allGrams K F st (nI i) post := by
  have hK := hv.1.2
  have L : ∀ m k, k + m = K → wp_Ha_allGrams_4 K F post (m + 1) st (nI i) (nI (ag gr i k)) (nI k) := by
    intro m
    induction m with
    | zero =>
      intro k e
      have e : k = K := by omega
      subst e
      exact ⟨fun _ => hp, fun q => absurd (by rw [hk.2.2.2.1.1]; exact Int32.le_refl _) q⟩
    | succ m ih =>
      intro k e
      refine ⟨fun q => absurd q (by rw [hk.2.2.2.1.1]; exact nI_ge (by omega) (by omega)), fun _ => ⟨vp_in_nI hi (by omega), vp_in_nI (by omega) (by omega), ?_⟩⟩
      rw [nI_clamp (show i < 2 ^ 31 by omega), nI_clamp (show k < 2 ^ 31 by omega), hk.2.2.2.2.2.2.2.2.2.1 i k hi (by omega), nI_add, nI_1]
      exact ih (k + 1) (by omega)
  exact ⟨K + 1, L K 0 (by omega)⟩
theorem mx_ag {i : Nat} {post : Int64 → jS → Prop} (hv : vD K F n b h num wid ord tau gx gy gr lr ll ls) (hm : mD K F n b h num wid ord tau gx gy gr lr ll ls sm) (hi : i < 12) (hp : post (lN (ag gr i K)) sm) : wp_Mo_all sm (nI i) post := by
  have hK := hv.1.2
  have L : ∀ m k, k + m = K → wp_Mo_all_5 post (m + 1) sm (nI i) (lN (ag gr i k)) (nI k) := by
    intro m
    induction m with
    | zero =>
      intro k e
      have e : k = K := by omega
      subst e
      exact ⟨fun _ => hp, fun q => absurd (by rw [hm.1.1]; exact Int32.le_refl _) q⟩
    | succ m ih =>
      intro k e
      have g := hv.2.2.2.2.2.2.2.2.2.2.1 i k
      refine ⟨fun q => absurd q (by rw [hm.1.1]; exact nI_ge (by omega) (by omega)), fun _ => ?_⟩
      rw [mul6, nI_clamp (show 6 * i + k < 2 ^ 31 by omega), hm.2.2.2.2.2.2.2.1 i k hi (by omega), nI_l (by omega), lN_add, nI_1]
      exact ⟨vp_in_nI (by omega) (by omega), ih (k + 1) (by omega)⟩
  exact ⟨K + 1, L K 0 (by omega)⟩
/-- haul j counts, but the left-out one -/
def okh (K : Nat) (gr : Nat → Nat → Nat) (ex : Int32) (j : Nat) : Prop := ¬ nI j = ex ∧ 0 < ag gr j K
/-- r is the first nearest of the hauls from lo to below hi that count, or -1 if there is none -/
def nst (K : Nat) (gr : Nat → Nat → Nat) (gx gy : Nat → Int32) (x y ex : Int32) (lo hi : Nat) (r : Int32) : Prop :=
  (r = -1 ∧ ∀ j, lo ≤ j → j < hi → ¬ okh K gr ex j) ∨ ∃ t, lo ≤ t ∧ t < hi ∧ r = nI t ∧ okh K gr ex t ∧ ∀ j, lo ≤ j → j < hi → okh K gr ex j → qd gx gy x y t ≤ qd gx gy x y j ∧ (j < t → qd gx gy x y t < qd gx gy x y j)
theorem nst_eq {ex r r' : Int32} {lo hi : Nat} (h1 : nst K gr gx gy x y ex lo hi r) (h2 : nst K gr gx gy x y ex lo hi r') : r = r' := by
  rcases h1 with ⟨e1, n1⟩ | ⟨t, t0, t1, e1, o1, m1⟩
  · rcases h2 with ⟨e2, n2⟩ | ⟨u, u0, u1, e2, o2, m2⟩
    · rw [e1, e2]
    · exact absurd o2 (n1 u u0 u1)
  · rcases h2 with ⟨e2, n2⟩ | ⟨u, u0, u1, e2, o2, m2⟩
    · exact absurd o1 (n2 t t0 t1)
    · have a := m1 u u0 u1 o2
      have c := m2 t t0 t1 o1
      have : t = u := by
        rcases Nat.lt_trichotomy t u with q | q | q
        · have := c.2 q; omega
        · exact q
        · have := a.2 q; omega
      rw [e1, e2, this]
theorem kx_nf {ex : Int32} {post : Int32 → jS → Prop} (hv : vD K F n b h num wid ord tau gx gy gr lr ll ls) (hk : kD K F n b h num wid ord tau gx gy gr lr ll ls st) (hx : -100 ≤ x.toInt ∧ x.toInt ≤ 100) (hy : -100 ≤ y.toInt ∧ y.toInt ≤ 100) (hp : ∀ r, nst K gr gx gy x y ex 0 h r → post r st) : wp_Ha_nearestFilled K F st x y ex post := by
  have hh := hv.2.2.2.2.1
  have hK := hv.1.2
  have h34 : st 3 4 = nI h := hk.2.2.2.1.2
  have L : ∀ m i r z, i + m = h → nst K gr gx gy x y ex 0 i r → (∀ t, r = nI t → t < 12 → z = nI (qd gx gy x y t)) → wp_Ha_nearestFilled_9 K F post (m + 1) st x y ex r z (nI i) := by
    intro m
    induction m with
    | zero =>
      intro i r z e hn hz
      have e : i = h := by omega
      subst e
      exact ⟨fun _ => hp r hn, fun q => absurd (by rw [h34]; exact Int32.le_refl _) q⟩
    | succ m ih =>
      intro i r z e hn hz
      have skip : ¬ okh K gr ex i → wp_Ha_nearestFilled_9 K F post (m + 1) st x y ex r z (nI i + 1) := by
        intro no
        rw [nI_1]
        refine ih (i + 1) r z (by omega) ?_ hz
        rcases hn with ⟨e1, n1⟩ | ⟨t, t0, t1, e1, o1, m1⟩
        · refine Or.inl ⟨e1, fun j _ hj => ?_⟩
          by_cases q : j = i
          · rw [q]; exact no
          · exact n1 j (by omega) (by omega)
        · refine Or.inr ⟨t, t0, by omega, e1, o1, fun j _ hj oj => ?_⟩
          by_cases q : j = i
          · rw [q] at oj; exact absurd oj no
          · exact m1 j (by omega) (by omega) oj
      refine ⟨fun q => absurd q (by rw [h34]; exact nI_ge (by omega) (by omega)), fun _ => ⟨fun q => skip (fun z => z.1 q), fun q => kx_ag hv hk (by omega) ⟨fun q1 => skip (fun z => ?_), fun q1 => kx_qd hv hk hx hy (by omega) ?_⟩⟩⟩
      · have := ag_le hv i K
        exact nI_nle z.2 (by omega) q1
      · have oi : okh K gr ex i := ⟨q, by
          rcases Nat.eq_zero_or_pos (ag gr i K) with e0 | e0
          · exact absurd (by rw [e0]; exact Int32.le_refl _) q1
          · exact e0⟩
        have qi := qd_le hv hx hy i
        refine ⟨fun q2 => ?_, fun q2 => ?_⟩
        · rw [nI_1]
          refine ih (i + 1) (nI i) _ (by omega) ?_ (fun t ht t12 => by rw [(nI_eq (by omega) (by omega)).mp ht])
          rcases hn with ⟨e1, n1⟩ | ⟨t, t0, t1, e1, o1, m1⟩
          · refine Or.inr ⟨i, by omega, by omega, rfl, oi, fun j _ hj oj => ?_⟩
            by_cases q : j = i
            · rw [q]; exact ⟨Nat.le_refl _, fun w => by omega⟩
            · exact absurd oj (n1 j (by omega) (by omega))
          · exact absurd (e1.symm.trans q2) (nI_nm1 (by omega))
        · rcases hn with ⟨e1, n1⟩ | ⟨t, t0, t1, e1, o1, m1⟩
          · exact absurd e1 q2
          · have qt := qd_le hv hx hy t
            rw [hz t e1 (by omega), nI_leI (by omega) (by omega), nI_1]
            refine ⟨fun q3 => ?_, fun q3 => ?_⟩
            · refine ih (i + 1) r _ (by omega) (Or.inr ⟨t, t0, by omega, e1, o1, fun j _ hj oj => ?_⟩) (fun u hu u12 => by rw [(nI_eq (by omega) (by omega)).mp (e1.symm.trans hu)])
              by_cases q : j = i
              · rw [q]; exact ⟨q3, fun w => by omega⟩
              · exact m1 j (by omega) (by omega) oj
            · refine ih (i + 1) (nI i) _ (by omega) (Or.inr ⟨i, by omega, by omega, rfl, oi, fun j _ hj oj => ?_⟩) (fun u hu u12 => by rw [(nI_eq (by omega) (by omega)).mp hu])
              by_cases q : j = i
              · rw [q]; exact ⟨Nat.le_refl _, fun w => by omega⟩
              · have := (m1 j (by omega) (by omega) oj).1
                exact ⟨by omega, fun w => by omega⟩
  refine ⟨h + 1, L h 0 (-1) 0 (by omega) (Or.inl ⟨rfl, fun j _ hj => absurd hj (by omega)⟩) (fun t ht t12 => absurd ht.symm (nI_nm1 (by omega)))⟩
theorem lc_le {a : Nat} (ha : a < 2 ^ 63) : lg_cmp (lN a) 0 ≤ 0 ↔ a = 0 := by
  show lg_cmp (lN a) (lN 0) ≤ 0 ↔ a = 0
  unfold lg_cmp
  by_cases q : a = 0
  · subst q; exact ⟨fun _ => rfl, fun _ => by decide⟩
  · rw [if_pos (show lN a > lN 0 from (pk_lLT (by omega) ha).mpr (by omega))]
    exact ⟨fun z => absurd z (by decide), fun z => absurd z q⟩
theorem lc_gt {a c : Nat} (ha : a < 2 ^ 63) (hc : c < 2 ^ 63) : 0 < lg_cmp (lN a) (lN c) ↔ c < a := by
  unfold lg_cmp
  by_cases q : c < a
  · rw [if_pos (show lN a > lN c from (pk_lLT hc ha).mpr q)]
    exact ⟨fun _ => q, fun _ => by decide⟩
  · rw [if_neg (fun z => q ((pk_lLT hc ha).mp z))]
    refine ⟨fun z => ?_, fun z => absurd z q⟩
    split at z
    · exact absurd z (by decide)
    · exact absurd z (by decide)
theorem mx_nf {ex : Int32} {post : Int32 → jS → Prop} (hv : vD K F n b h num wid ord tau gx gy gr lr ll ls) (hm : mD K F n b h num wid ord tau gx gy gr lr ll ls sm) (hx : -100 ≤ x.toInt ∧ x.toInt ≤ 100) (hy : -100 ≤ y.toInt ∧ y.toInt ≤ 100) (hp : ∀ r, nst K gr gx gy x y ex 0 h r → post r sm) : wp_Mo_nearHaul sm x y ex post := by
  have hh := hv.2.2.2.2.1
  have hK := hv.1.2
  have h09 : sm 0 9 = nI h := hm.2.1.2.2
  have L : ∀ i r, i ≤ h → nst K gr gx gy x y ex i h r → wp_Mo_nearHaul_11 post (i + 1) sm x y ex r (nI i - 1) := by
    intro i
    induction i with
    | zero =>
      intro r e hn
      exact ⟨fun _ => hp r hn, fun q => absurd (by decide) q⟩
    | succ i ih =>
      intro r e hn
      rw [nI_pred]
      have m1 : nI i + (-1) = nI i - 1 := by
        rcases Nat.eq_zero_or_pos i with q | q
        · rw [q]; decide
        · obtain ⟨p, rfl⟩ : ∃ p, i = p + 1 := ⟨i - 1, by omega⟩
          rw [pk_m1, nI_pred]
      have skip : ¬ okh K gr ex i → wp_Mo_nearHaul_11 post (i + 1) sm x y ex r (nI i + (-1)) := by
        intro no
        rw [m1]
        refine ih r (by omega) ?_
        rcases hn with ⟨e1, n1⟩ | ⟨t, t0, t1, e1, o1, m1⟩
        · refine Or.inl ⟨e1, fun j _ hj => ?_⟩
          by_cases q : j = i
          · rw [q]; exact no
          · exact n1 j (by omega) (by omega)
        · refine Or.inr ⟨t, by omega, t1, e1, o1, fun j _ hj oj => ?_⟩
          by_cases q : j = i
          · rw [q] at oj; exact absurd oj no
          · exact m1 j (by omega) (by omega) oj
      have al := ag_le hv i K
      refine ⟨fun q => absurd q (nI_pos (by omega)), fun _ => ⟨fun q => skip (fun z => z.1 q), fun q => mx_ag hv hm (by omega) ⟨fun q1 => skip (fun z => ?_), fun q1 => ?_⟩⟩⟩
      · have := (lc_le (by omega)).mp q1
        have := z.2
        omega
      · have oi : okh K gr ex i := ⟨q, by
          have := mt (lc_le (a := ag gr i K) (by omega)).mpr q1
          omega⟩
        have qi := qd_le hv hx hy i
        have take : (∀ j, i + 1 ≤ j → j < h → okh K gr ex j → qd gx gy x y i ≤ qd gx gy x y j) → wp_Mo_nearHaul_11 post (i + 1) sm x y ex (nI i) (nI i + (-1)) := by
          intro hle
          rw [m1]
          refine ih (nI i) (by omega) (Or.inr ⟨i, by omega, by omega, rfl, oi, fun j _ hj oj => ?_⟩)
          by_cases q : j = i
          · rw [q]; exact ⟨Nat.le_refl _, fun w => by omega⟩
          · exact ⟨hle j (by omega) hj oj, fun w => by omega⟩
        refine ⟨fun q2 => take ?_, fun q2 => ?_⟩
        · rcases hn with ⟨e1, n1⟩ | ⟨t, t0, t1, e1, o1, m1⟩
          · exact fun j h1 h2 oj => absurd oj (n1 j h1 h2)
          · exact absurd (e1.symm.trans q2) (nI_nm1 (by omega))
        · rcases id hn with ⟨e1, n1⟩ | ⟨t, t0, t1, e1, o1, mm⟩
          · exact absurd e1 q2
          · have qt := qd_le hv hx hy t
            refine mx_qd hv hm hx hy (by omega) ?_
            show wp_Mo_square sm r x y _
            rw [e1]
            refine mx_qd hv hm hx hy (by omega) ?_
            rw [lc_gt (by omega) (by omega)]
            refine ⟨fun q3 => ?_, fun q3 => take (fun j h1 h2 oj => ?_)⟩
            · rw [m1]
              refine ih (nI t) (by omega) (Or.inr ⟨t, by omega, t1, rfl, o1, fun j _ hj oj => ?_⟩)
              by_cases q : j = i
              · rw [q]; exact ⟨by omega, fun w => q3⟩
              · exact mm j (by omega) (by omega) oj
            · have := (mm j h1 h2 oj).1
              omega
  unfold wp_Mo_nearHaul
  rw [h09]
  exact ⟨h + 1, L h (-1) (Nat.le_refl _) (Or.inl ⟨rfl, fun j h1 h2 => absurd h2 (by omega)⟩)⟩
end SH
