/-! ===== prefer ===== -/
/-- one to one into the numbers below n, so onto them -/
theorem pgn (n : Nat) : ∀ (g : Nat → Nat), (∀ i, i < n → g i < n) → (∀ i j, i < n → j < n → g i = g j → i = j) → ∀ y, y < n → ∃ i, i < n ∧ g i = y := by
  induction n with
  | zero => intro g _ _ y hy; omega
  | succ n ih =>
    intro g hg hi y hy
    by_cases hy2 : g n = y
    · exact ⟨n, by omega, hy2⟩
    · have hgn := hg n (by omega)
      have A : ∀ i, i < n → g i ≠ g n := fun i h e => by have := hi i n (by omega) (by omega) e; omega
      obtain ⟨i, hi1, hi2⟩ := ih (fun i => if g i < g n then g i else g i - 1) (by
          intro i h
          have h1 := hg i (by omega)
          have h2 := A i h
          show (if g i < g n then g i else g i - 1) < n
          split <;> omega) (by
          intro i j h1 h2 e
          have a1 := A i h1
          have a2 := A j h2
          refine hi i j (by omega) (by omega) ?_
          have e' : (if g i < g n then g i else g i - 1) = (if g j < g n then g j else g j - 1) := e
          split at e' <;> split at e' <;> omega) (if y < g n then y else y - 1) (by split <;> omega)
      refine ⟨i, by omega, ?_⟩
      have a1 := A i hi1
      have e' : (if g i < g n then g i else g i - 1) = (if y < g n then y else y - 1) := hi2
      split at e' <;> split at e' <;> omega
/-- the order while the first P places move back by one, down to place j -/
def sh (ord : Nat → Nat) (P j q : Nat) : Nat := if j < q ∧ q ≤ P then ord (q - 1) else ord q
def ford (ord : Nat → Nat) (P k q : Nat) : Nat := if q = 0 then k else sh ord P 0 q
section PF
variable {K F n b h : Nat} {num : Nat → Nat → Nat} {wid ord ord' : Nat → Nat} {tau gx gy : Nat → Int32} {gr : Nat → Nat → Nat} {lr : Nat → Nat} {ll ls : Nat → Nat → Nat} {st st' sm sm' : jS}
theorem kD_ord (hc : ∀ a, a ≠ 9 → st' a = st a) (ho : ∀ q, q < K → st' 9 q = nI (ord' q)) (hk : kD K F n b h num wid ord tau gx gy gr lr ll ls st) : kD K F n b h num wid ord' tau gx gy gr lr ll ls st' := by
  obtain ⟨h0, h1, h2, h3, h4, h5, h6, h7, h8, h9, h10⟩ := hk
  refine ⟨?_, ?_, ?_, ?_, ?_, ?_, ?_, ho, ?_, ?_, ?_⟩
  · rw [hc 0 (by omega)]; exact h0
  · rw [hc 1 (by omega)]; exact h1
  · rw [hc 2 (by omega)]; exact h2
  · rw [hc 3 (by omega)]; exact h3
  · rw [hc 6 (by omega)]; exact h4
  · rw [hc 7 (by omega)]; exact h5
  · intro e f he hf; rw [hc (15 + e) (by omega)]; exact h6 e f he hf
  · rw [hc 12 (by omega), hc 13 (by omega)]; exact h8
  · intro i k hi hk; rw [hc (39 + i) (by omega)]; exact h9 i k hi hk
  · intro k hk; rw [hc (51 + 3 * k) (by omega), hc (52 + 3 * k) (by omega), hc (53 + 3 * k) (by omega)]; exact h10 k hk
theorem mD_ord (hc : ∀ a, a ≠ 4 → sm' a = sm a) (ho : ∀ q, q < K → sm' 4 q = nI (ord' q)) (hm : mD K F n b h num wid ord tau gx gy gr lr ll ls sm) : mD K F n b h num wid ord' tau gx gy gr lr ll ls sm' := by
  obtain ⟨m0, m1, m2, m3, m4, m5, m6, m7, m8⟩ := hm
  refine ⟨?_, ?_, ?_, ?_, ?_, ho, ?_, ?_, ?_⟩
  · rw [hc 0 (by omega)]; exact m0
  · rw [hc 0 (by omega)]; exact m1
  · rw [hc 2 (by omega)]; exact m2
  · rw [hc 1 (by omega)]; exact m3
  · rw [hc 3 (by omega)]; exact m4
  · rw [hc 5 (by omega), hc 6 (by omega)]; exact m6
  · rw [hc 7 (by omega)]; exact m7
  · rw [hc 8 (by omega), hc 9 (by omega), hc 10 (by omega)]; exact m8
theorem k_shift {P k : Nat} {post : Int32 → jS → Prop} (hK : K ≤ 6) (hP : P < K) (hp : ∀ st', (∀ a, a ≠ 9 → st' a = st a) → (∀ q, q < K → st' 9 q = nI (ford ord P k q)) → post (nI P) st') : ∀ j st', j ≤ P → (∀ a, a ≠ 9 → st' a = st a) → (∀ q, q < K → st' 9 q = nI (sh ord P j q)) → wp_Te_bringToFront_8 K F post (j + 1) st' (nI k) (nI P) (nI j) := by
  intro j
  induction j with
  | zero =>
    intro st' hj hs ho
    refine ⟨fun _ => ⟨vp_in_nI (n := 0) (by omega) (by omega), hp _ (fun a ha => ?_) (fun q hq => ?_)⟩, fun q => absurd (Int32.le_refl _) q⟩
    · rw [← hs a ha]; exact funext fun i => jq_o ha
    · show jq st' 9 0 (nI k) 9 q = _
      unfold ford
      rw [jq_r]
      by_cases e : q = 0
      · rw [if_pos ⟨rfl, e⟩, if_pos e]
      · rw [if_neg (fun z => e z.2), if_neg e]; exact ho q hq
  | succ j ih =>
    intro st' hj hs ho
    refine ⟨fun q => absurd q (nI_nle (by omega) (by omega)), fun _ => ?_⟩
    rw [nI_pred, pk_m1, nI_clamp (show j < 2 ^ 31 by omega), nI_clamp (show j + 1 < 2 ^ 31 by omega), ho j (by omega)]
    refine ⟨vp_in_nI (by omega) (by omega), vp_in_nI (by omega) (by omega), ih _ (by omega) (fun a ha => ?_) (fun q hq => ?_)⟩
    · rw [← hs a ha]; exact funext fun i => jq_o ha
    · rw [jq_r]
      by_cases e : q = j + 1
      · rw [if_pos ⟨rfl, e⟩, e]
        unfold sh
        rw [if_neg (by omega), if_pos (by omega)]
        rfl
      · rw [if_neg (fun z => e z.2), ho q hq]
        unfold sh
        by_cases e2 : j + 1 < q ∧ q ≤ P
        · rw [if_pos e2, if_pos (by omega)]
        · rw [if_neg e2, if_neg (by omega)]
theorem m_shift {P k : Nat} {post : Int32 → jS → Prop} (hK : K ≤ 6) (hP : P < K) (hp : ∀ st', (∀ a, a ≠ 4 → st' a = sm a) → (∀ q, q < K → st' 4 q = nI (ford ord P k q)) → post (nI P) st') : ∀ j st', j ≤ P → (∀ a, a ≠ 4 → st' a = sm a) → (∀ q, q < K → st' 4 q = nI (sh ord P j q)) → wp_Mo_prefer_46 post (j + 1) st' (nI k) (nI P) (nI j) := by
  intro j
  induction j with
  | zero =>
    intro st' hj hs ho
    refine ⟨fun _ => ⟨vp_in_nI (n := 0) (by omega) (by omega), hp _ (fun a ha => ?_) (fun q hq => ?_)⟩, fun q => absurd (Int32.le_refl _) q⟩
    · rw [← hs a ha]; exact funext fun i => jq_o ha
    · show jq st' 4 0 (nI k) 4 q = _
      unfold ford
      rw [jq_r]
      by_cases e : q = 0
      · rw [if_pos ⟨rfl, e⟩, if_pos e]
      · rw [if_neg (fun z => e z.2), if_neg e]; exact ho q hq
  | succ j ih =>
    intro st' hj hs ho
    refine ⟨fun q => absurd q (nI_nle (by omega) (by omega)), fun _ => ?_⟩
    rw [nI_pred, pk_m1, nI_clamp (show j < 2 ^ 31 by omega), nI_clamp (show j + 1 < 2 ^ 31 by omega), ho j (by omega)]
    refine ⟨vp_in_nI (by omega) (by omega), vp_in_nI (by omega) (by omega), ih _ (by omega) (fun a ha => ?_) (fun q hq => ?_)⟩
    · rw [← hs a ha]; exact funext fun i => jq_o ha
    · rw [jq_r]
      by_cases e : q = j + 1
      · rw [if_pos ⟨rfl, e⟩, e]
        unfold sh
        rw [if_neg (by omega), if_pos (by omega)]
        rfl
      · rw [if_neg (fun z => e z.2), ho q hq]
        unfold sh
        by_cases e2 : j + 1 < q ∧ q ≤ P
        · rw [if_pos e2, if_pos (by omega)]
        · rw [if_neg e2, if_neg (by omega)]
end PF
theorem p_8 (K F : Nat) : lOwe wc_8 K F (Rl K F) := by
  intro st f sm a1 a2 a3 a4 hR
  obtain ⟨n, b, h, num, wid, ord, tau, gx, gy, gr, lr, ll, ls, hv, hk, hm⟩ := id hR
  obtain ⟨v0, v1, v2, v3, v4, v5, v6, v7, v8, v9, v10, v11⟩ := id hv
  have hK9 : sm 0 1 = nI K := hm.1.1
  have hm0 := mD_thr 0 hm
  unfold wc_8 wp_Lw_prefer wp_KT_prefer
  rcases ix_cases a1 (n := K) (by omega) with hx | ⟨k, hk9, rfl⟩
  · refine nx_bad hk.1.1 hx ⟨rfl, ?_⟩
    show wp_Mo_prefer sm a1 _
    unfold wp_Mo_prefer
    refine mk_0 hK9 (by omega) hx ⟨fun v => v = 1, ?_, fun q => absurd rfl q, fun _ => rfl⟩
    rintro v rfl
    exact th_p (by decide) (fin_x (by decide) hR)
  · refine nx_ok hk.1.1 hk9 (by omega) ?_
    obtain ⟨P, hP, eP⟩ := pgn K ord v8.1 v8.2 k hk9
    have ne : ∀ p, p < P → ¬ nI (ord p) = nI k := by
      intro p hp q
      have o1 := v8.1 p (by omega)
      have := (nI_eq (by omega) (by omega)).mp q
      have := v8.2 p P (by omega) hP (by omega)
      omega
    have s0 : ∀ q, sh ord P P q = ord q := fun q => if_neg (by omega)
    unfold wp_Te_bringToFront wp_Te_placeOf
    have L : ∀ (post : Int32 → jS → Prop), post (nI P) st → ∀ m p, p + m = P → wp_Te_placeOf_2 K F post (m + 1) st (nI k) (nI p) := by
      intro post hp m
      induction m with
      | zero =>
        intro p hp'
        have e : p = P := by omega
        subst e
        refine ⟨fun _ => hp, fun _ => ⟨vp_in_nI hP (by omega), fun _ => hp, fun q => ?_⟩⟩
        rw [nI_clamp (by omega), hk.2.2.2.2.2.2.2.1 p hP, eP] at q
        exact absurd rfl q
      | succ m ih =>
        intro p hp'
        obtain ⟨K', rfl⟩ : ∃ K', K = K' + 1 := ⟨K - 1, by omega⟩
        refine ⟨fun q => ?_, fun _ => ⟨vp_in_nI (by omega) (by omega), fun q => ?_, fun _ => ?_⟩⟩
        · rw [hk.2.2.1.1, nI_pred] at q
          exact absurd q (nI_ge (by omega) (by omega))
        · rw [nI_clamp (by omega), hk.2.2.2.2.2.2.2.1 p (by omega)] at q
          exact absurd q (ne p (by omega))
        · rw [nI_1]; exact ih (p + 1) (by omega)
    refine ⟨P + 1, L _ ?_ P 0 (by omega)⟩
    refine ⟨P + 1, k_shift (st := st) (ord := ord) v0.2 hP ?_ P st (Nat.le_refl _) (fun _ _ => rfl) (fun q hq => by rw [s0]; exact hk.2.2.2.2.2.2.2.1 q hq)⟩
    intro st' hs ho
    show wp_Mo_prefer sm (nI k) _
    unfold wp_Mo_prefer
    refine mk_1 hK9 hk9 (by omega) ⟨fun v => v = 0, ?_, fun _ => rfl, fun q => absurd q (by decide)⟩
    rintro v rfl
    refine th_0 ?_
    have M : ∀ (post : Int32 → jS → Prop), (∃ n11, wp_Mo_prefer_46 post n11 (jq sm 0 0 0) (nI k) (nI P) (nI P)) → ∀ m p, p + m = P → wp_Mo_prefer_28 post (m + 1) (jq sm 0 0 0) (nI k) (nI p) := by
      intro post hp m
      induction m with
      | zero =>
        intro p hp'
        have e : p = P := by omega
        subst e
        refine ⟨vp_in_nI (by omega) (by omega), fun _ => hp, fun q => ?_⟩
        rw [nI_clamp (by omega), hm0.2.2.2.2.2.1 p hP, eP] at q
        exact absurd rfl q
      | succ m ih =>
        intro p hp'
        refine ⟨vp_in_nI (by omega) (by omega), fun q => ?_, fun _ => ?_⟩
        · rw [nI_clamp (by omega), hm0.2.2.2.2.2.1 p (by omega)] at q
          exact absurd q (ne p (by omega))
        · rw [nI_1]; exact ih (p + 1) (by omega)
    refine ⟨P + 1, M _ ⟨P + 1, m_shift (sm := jq sm 0 0 0) (ord := ord) v0.2 hP ?_ P _ (Nat.le_refl _) (fun _ _ => rfl) (fun q hq => by rw [s0]; exact hm0.2.2.2.2.2.1 q hq)⟩ P 0 (by omega)⟩
    intro sm' ms mo
    have eF : ∀ q, ford ord P k q = if q = 0 then k else if q ≤ P then ord (q - 1) else ord q := by
      intro q
      unfold ford sh
      by_cases e : q = 0
      · rw [if_pos e, if_pos e]
      · rw [if_neg e, if_neg e]
        by_cases e2 : q ≤ P
        · rw [if_pos e2, if_pos ⟨by omega, e2⟩]
        · rw [if_neg e2, if_neg (fun z => e2 z.2)]
    refine fin_v (f := f) ⟨n, b, h, num, wid, ford ord P k, tau, gx, gy, gr, lr, ll, ls, ⟨v0, v1, v2, v3, v4, v5, v6, v7, ⟨fun p hp => ?_, fun p q hp hq e => ?_⟩, v9, v10, v11⟩, kD_ord hs ho hk, mD_ord ms mo hm0⟩ (by rw [ms 0 (by omega)]; exact jq_s)
    · rw [eF]
      by_cases e : p = 0
      · rw [if_pos e]; exact hk9
      · rw [if_neg e]
        by_cases e2 : p ≤ P
        · rw [if_pos e2]; exact v8.1 _ (by omega)
        · rw [if_neg e2]; exact v8.1 _ hp
    · rw [eF, eF] at e
      have J : ∀ x y, x < K → y < K → ord x = ord y → x = y := v8.2
      have JP : ∀ x, x < K → ord x = k → x = P := fun x hx e => v8.2 x P hx hP (by omega)
      by_cases p0 : p = 0
      · rw [if_pos p0] at e
        by_cases q0 : q = 0
        · omega
        · rw [if_neg q0] at e
          by_cases q1 : q ≤ P
          · rw [if_pos q1] at e; have := JP (q - 1) (by omega) e.symm; omega
          · rw [if_neg q1] at e; have := JP q hq e.symm; omega
      · rw [if_neg p0] at e
        by_cases q0 : q = 0
        · rw [if_pos q0] at e
          by_cases p1 : p ≤ P
          · rw [if_pos p1] at e; have := JP (p - 1) (by omega) e; omega
          · rw [if_neg p1] at e; have := JP p hp e; omega
        · rw [if_neg q0] at e
          by_cases p1 : p ≤ P
          · rw [if_pos p1] at e
            by_cases q1 : q ≤ P
            · rw [if_pos q1] at e; have := J (p - 1) (q - 1) (by omega) (by omega) e; omega
            · rw [if_neg q1] at e; have := J (p - 1) q (by omega) hq e; omega
          · rw [if_neg p1] at e
            by_cases q1 : q ≤ P
            · rw [if_pos q1] at e; have := J p (q - 1) hp (by omega) e; omega
            · rw [if_neg q1] at e; exact J p q hp hq e
