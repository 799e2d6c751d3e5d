/-! ===== fractions in lowest terms ===== -/
theorem lc0 {x : Nat} (h : x < 2 ^ 63) : lg_cmp (lN x) 0 = 0 ↔ x = 0 := by
  show lg_cmp (lN x) (lN 0) = 0 ↔ x = 0
  unfold lg_cmp
  by_cases q : x = 0
  · subst q; exact ⟨fun _ => rfl, fun _ => by decide⟩
  · rw [if_pos (show lN x > lN 0 from (pk_lLT (by omega) h).mpr (by omega))]
    exact ⟨fun z => absurd z (by decide), fun z => absurd z q⟩
theorem lc1 {x : Nat} (h : x < 2 ^ 63) : lg_cmp (lN x) 1 < 0 ↔ x = 0 := by
  show lg_cmp (lN x) (lN 1) < 0 ↔ x = 0
  unfold lg_cmp
  by_cases q : x = 0
  · subst q; exact ⟨fun _ => rfl, fun _ => by decide⟩
  · by_cases q1 : x = 1
    · subst q1; exact ⟨fun z => absurd z (by decide), fun z => absurd z q⟩
    · rw [if_pos (show lN x > lN 1 from (pk_lLT (by omega) h).mpr (by omega))]
      exact ⟨fun z => absurd z (by decide), fun z => absurd z q⟩
theorem lN_0 {x : Nat} (h : x < 2 ^ 63) (h0 : 0 < x) : ¬ lN x = 0 := fun q => by
  have := (pk_lEQ h (show 0 < 2 ^ 63 by omega)).mp q
  omega
theorem k_gcd {K F : Nat} {st : jS} {x0 x2 : Int64} {post : Int64 → jS → Prop} : ∀ t a c i, a < 2 ^ 63 → c < 2 ^ 63 → c < 2 ^ t → i + 2 * t ≤ 999 → post (lN (Nat.gcd a c)) st → ∃ N, wp_KT_commonDivisor_9 K F post N st x0 x2 (lN a) (lN c) (nI i) := by
  have Z : ∀ a i, i ≤ 999 → post (lN a) st → wp_KT_commonDivisor_9 K F post 1 st x0 x2 (lN a) (lN 0) (nI i) := by
    intro a i hi hp
    exact ⟨fun _ => hp, fun _ => ⟨fun _ => hp, fun q => absurd ((lc0 (by omega)).mpr rfl) q⟩⟩
  have S : ∀ a c i N, a < 2 ^ 63 → c < 2 ^ 63 → 0 < c → i < 1000 → wp_KT_commonDivisor_9 K F post N st x0 x2 (lN c) (lN (a % c)) (nI (i + 1)) → wp_KT_commonDivisor_9 K F post (N + 1) st x0 x2 (lN a) (lN c) (nI i) := by
    intro a c i N ha hc h0 hi hw
    refine ⟨fun q => absurd q (nI_ge (b := 1000) hi (by omega)), fun _ => ⟨fun q => absurd ((lc0 hc).mp q) (by omega), fun _ => ⟨lN_0 hc h0, ?_⟩⟩⟩
    rw [pk_lRem ha h0 hc, nI_1]
    exact hw
  intro t
  induction t with
  | zero =>
    intro a c i ha hc ht hi hp
    have e : c = 0 := by omega
    subst e
    rw [Nat.gcd_zero_right] at hp
    exact ⟨1, Z a i (by omega) hp⟩
  | succ t ih =>
    intro a c i ha hc ht hi hp
    rcases Nat.eq_zero_or_pos c with e | h0
    · subst e
      rw [Nat.gcd_zero_right] at hp
      exact ⟨1, Z a i (by omega) hp⟩
    · have r1 := Nat.mod_lt a h0
      have g1 : Nat.gcd a c = Nat.gcd c (a % c) := by
        rw [Nat.gcd_comm a c, Nat.gcd_rec c a, Nat.gcd_comm]
      rcases Nat.eq_zero_or_pos (a % c) with e | h1
      · rw [g1, e, Nat.gcd_zero_right] at hp
        refine ⟨2, S a c i 1 ha hc h0 (by omega) ?_⟩
        rw [e]
        exact Z c (i + 1) (by omega) hp
      · have r2 := Nat.mod_lt c h1
        have d2 := Nat.div_add_mod c (a % c)
        have q2 : 1 ≤ c / (a % c) := Nat.div_pos (by omega) h1
        have m2 : (a % c) * 1 ≤ (a % c) * (c / (a % c)) := Nat.mul_le_mul_left _ q2
        have g2 : Nat.gcd c (a % c) = Nat.gcd (a % c) (c % (a % c)) := by
          rw [Nat.gcd_comm c (a % c), Nat.gcd_rec (a % c) c, Nat.gcd_comm]
        rw [g1, g2] at hp
        obtain ⟨N, hN⟩ := ih (a % c) (c % (a % c)) (i + 1 + 1) (by omega) (by omega) (by rw [Nat.pow_succ] at ht; omega) (by omega) hp
        exact ⟨N + 1 + 1, S a c i (N + 1) ha hc h0 (by omega) (S c (a % c) (i + 1) N hc (by omega) h1 (by omega) hN)⟩
theorem m_gcd {sm : jS} {x0 x2 : Int64} {post : Int64 → jS → Prop} : ∀ t a c, a ≤ t → a < 2 ^ 63 → c < 2 ^ 63 → post (lN (Nat.gcd a c)) sm → ∃ N, wp_Mo_divisor_6 post N sm x0 x2 (lN a) (lN c) := by
  have Z : ∀ c, post (lN c) sm → wp_Mo_divisor_6 post 1 sm x0 x2 (lN 0) (lN c) := fun c hp => ⟨fun _ => hp, fun q => absurd ((lc0 (by omega)).mpr rfl) q⟩
  intro t
  induction t with
  | zero =>
    intro a c ht ha hc hp
    have e : a = 0 := Nat.le_zero.mp ht
    subst e
    rw [Nat.gcd_zero_left] at hp
    exact ⟨1, Z c hp⟩
  | succ t ih =>
    intro a c ht ha hc hp
    rcases Nat.eq_zero_or_pos a with e | h0
    · subst e
      rw [Nat.gcd_zero_left] at hp
      exact ⟨1, Z c hp⟩
    · rw [Nat.gcd_rec] at hp
      have r := Nat.mod_lt c h0
      obtain ⟨N, hN⟩ := ih (c % a) a (by omega) (by omega) ha hp
      refine ⟨N + 1, fun q => absurd ((lc0 ha).mp q) (by omega), fun _ => ⟨lN_0 ha h0, ?_⟩⟩
      rw [pk_lRem hc h0 ha]
      exact hN
/-- a part of a fraction in lowest terms; of none, 0 and 1 -/
def ptf (a c : Nat) (w : Int32) : Int64 := if c = 0 then w.toInt64 else lN ((if w = 0 then a else c) / Nat.gcd a c)
theorem kx_part {K F : Nat} {st : jS} {a c : Nat} {w : Int32} {post : Int64 → jS → Prop} (ha : a < 2 ^ 63) (hc : c < 2 ^ 63) (hw : w = 0 ∨ w = 1) (hp : post (ptf a c w) st) : wp_KT_partOf K F st (lN a) (lN c) w post := by
  unfold wp_KT_partOf wp_KT_commonDivisor
  refine k_gcd 63 a c 0 ha hc hc (by omega) ?_
  unfold ptf at hp
  by_cases e : c = 0
  · rw [if_pos e] at hp
    refine ⟨fun _ => ⟨fun q => ?_, fun q => ?_⟩, fun q => absurd ((lc1 hc).mpr e) q⟩
    · have e1 := hw.resolve_left q
      subst e1
      exact hp
    · subst q
      exact hp
  · rw [if_neg e] at hp
    have g0 : 0 < Nat.gcd a c := Nat.gcd_pos_of_pos_right a (by omega)
    have g1 : Nat.gcd a c ≤ c := Nat.gcd_le_right a (by omega)
    have gc : ¬ lg_cmp (lN (Nat.gcd a c)) 1 < 0 := fun q => absurd ((lc1 (by omega)).mp q) (by omega)
    refine ⟨fun q => absurd ((lc1 hc).mp q) e, fun _ => ⟨fun _ => ⟨fun q => ⟨lN_0 (by omega) g0, ?_⟩, fun q => ⟨lN_0 (by omega) g0, ?_⟩⟩, fun q => absurd (Int32.not_lt.mp gc) q⟩⟩
    · rw [if_neg q] at hp
      rw [pk_lDiv hc g0 (by omega)]; exact hp
    · rw [if_pos q] at hp
      rw [pk_lDiv ha g0 (by omega)]; exact hp
theorem mx_part {sm : jS} {a c : Nat} {w : Int32} {post : Int64 → jS → Prop} (ha : a < 2 ^ 63) (hc : c < 2 ^ 63) (hp : post (ptf a c w) sm) : wp_Mo_part sm (lN a) (lN c) w post := by
  unfold wp_Mo_part wp_Mo_divisor
  unfold ptf at hp
  by_cases e : c = 0
  · rw [if_pos e] at hp
    exact ⟨fun q => absurd ((lc0 hc).mpr e) q, fun _ => hp⟩
  · rw [if_neg e] at hp
    have g0 : 0 < Nat.gcd a c := Nat.gcd_pos_of_pos_right a (by omega)
    have g1 : Nat.gcd a c ≤ c := Nat.gcd_le_right a (by omega)
    refine ⟨fun _ => m_gcd a a c (Nat.le_refl _) ha hc ?_, fun q => absurd ((lc0 hc).mp q) e⟩
    refine ⟨fun q => ⟨lN_0 (by omega) g0, ?_⟩, fun q => ⟨lN_0 (by omega) g0, ?_⟩⟩
    · rw [if_neg q] at hp
      rw [pk_lDiv hc g0 (by omega)]; exact hp
    · rw [if_pos q] at hp
      rw [pk_lDiv ha g0 (by omega)]; exact hp
/-- the check of a part, on both sides -/
theorem np_cases (x : Int32) : (x = 0 ∨ x = 1) ∨ (¬ x = 0 ∧ ¬ x = 1) := by
  by_cases h : x = 0
  · exact Or.inl (Or.inl h)
  · by_cases h1 : x = 1
    · exact Or.inl (Or.inr h1)
    · exact Or.inr ⟨h, h1⟩
theorem np_ok {K F : Nat} {st : jS} {x : Int32} {post : jS → Prop} {xp : String → jS → Prop} (hx : x = 0 ∨ x = 1) (h : post st) : wp_KT_needPart K F st x post xp := ⟨fun _ => h, fun q => ⟨fun _ => h, fun q1 => absurd (hx.resolve_left q) q1⟩⟩
theorem np_bad {K F : Nat} {st : jS} {x : Int32} {post : jS → Prop} {xp : String → jS → Prop} (hx : ¬ x = 0 ∧ ¬ x = 1) (h : xp "java/lang/IndexOutOfBoundsException" st) : wp_KT_needPart K F st x post xp := ⟨fun q => absurd q hx.1, fun _ => ⟨fun q => absurd q hx.2, fun _ => h⟩⟩
theorem mp_1 {sm : jS} {x : Int32} {post : Int32 → jS → Prop} (hx : x = 0 ∨ x = 1) (h : post 1 sm) : wp_Mo_isIn sm x 0 1 post := by
  rcases hx with rfl | rfl
  · exact mi_1 (by decide) (by decide) h
  · exact mi_1 (by decide) (by decide) h
theorem mp_0 {sm : jS} {x : Int32} {post : Int32 → jS → Prop} (hx : ¬ x = 0 ∧ ¬ x = 1) (h : post 0 sm) : wp_Mo_isIn sm x 0 1 post := by
  rcases rg_cases x (M := 1) (n := 1) (by decide) with q | ⟨j, hj, e, _, _⟩
  · exact mi_0 q h
  · have : j = 0 ∨ j = 1 := by omega
    rcases this with rfl | rfl
    · exact absurd e hx.1
    · exact absurd e hx.2
