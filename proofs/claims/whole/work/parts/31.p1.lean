/-! ===== the checks of arguments, on both sides ===== -/
theorem ix_cases (x : Int32) {n : Nat} (hn : n ≤ 1000) : (x < 0 ∨ nI n ≤ x) ∨ ∃ j : Nat, j < n ∧ x = nI j := by
  rcases pk_ix x (n := n) (by omega) with h | h | h
  · exact Or.inl (Or.inl h)
  · exact Or.inl (Or.inr h)
  · exact Or.inr h
/-- the class's check of an index -/
theorem nx_ok {A B : Prop} {c : Int32} {j n : Nat} (hc : c = nI n) (hj : j < n) (hn : n ≤ 1000) (h : A) : (nI j < 0 → B) ∧ (¬ nI j < 0 → ((nI j < c → A) ∧ (¬ nI j < c → B))) :=
  ⟨fun q => absurd q (nI_pos (by omega)), fun _ => ⟨fun _ => h, fun q => absurd (by rw [hc]; exact nI_lt hj (by omega)) q⟩⟩
theorem nx_bad {A B : Prop} {x c : Int32} {n : Nat} (hc : c = nI n) (hx : x < 0 ∨ nI n ≤ x) (h : B) : (x < 0 → B) ∧ (¬ x < 0 → ((x < c → A) ∧ (¬ x < c → B))) :=
  ⟨fun _ => h, fun q => ⟨fun q2 => absurd q2 (by rw [hc]; exact Int32.not_lt.mpr (hx.resolve_left q)), fun _ => h⟩⟩
/-- the class's check of a number -/
theorem nw_ok {A B : Prop} {x lo hi : Int32} (h1 : ¬ x < lo) (h2 : x ≤ hi) (h : A) : (x < lo → B) ∧ (¬ x < lo → ((x ≤ hi → A) ∧ (¬ x ≤ hi → B))) := ⟨fun q => absurd q h1, fun _ => ⟨fun _ => h, fun q => absurd h2 q⟩⟩
theorem nw_bad {A B : Prop} {x lo hi : Int32} (h1 : x < lo ∨ ¬ x ≤ hi) (h : B) : (x < lo → B) ∧ (¬ x < lo → ((x ≤ hi → A) ∧ (¬ x ≤ hi → B))) := ⟨fun _ => h, fun q => ⟨fun q2 => absurd q2 (h1.resolve_left q), fun _ => h⟩⟩
/-- the reference's -/
theorem mi_1 {sm : jS} {x lo hi : Int32} {post : Int32 → jS → Prop} (h1 : ¬ x < lo) (h2 : x ≤ hi) (h : post 1 sm) : wp_Mo_isIn sm x lo hi post := ⟨fun q => absurd q h1, fun _ => ⟨fun q => absurd h2 (Int32.not_le.mpr q), fun _ => h⟩⟩
theorem mi_0 {sm : jS} {x lo hi : Int32} {post : Int32 → jS → Prop} (h1 : x < lo ∨ ¬ x ≤ hi) (h : post 0 sm) : wp_Mo_isIn sm x lo hi post := ⟨fun _ => h, fun q => ⟨fun _ => h, fun q2 => absurd (Int32.not_lt.mp q2) (h1.resolve_left q)⟩⟩
theorem i32_0 : (0 : Int32).toInt = 0 := by decide
theorem nI_m1 {n : Nat} (hn : n ≤ 1000) : (nI n - 1).toInt = (n : Int) - 1 := by
  rw [Jvm.Kit.i32_sub] <;> rw [nI_toInt (by omega), i32_1] <;> omega
theorem mx_1 {sm : jS} {j n : Nat} {c : Int32} {post : Int32 → jS → Prop} (hc : c = nI n) (hj : j < n) (hn : n ≤ 1000) (h : post 1 sm) : wp_Mo_isIn sm (nI j) 0 (c - 1) (fun r st => (r = 0 ∨ r = 1) ∧ post r st) :=
  mi_1 (nI_pos (by omega)) (by rw [hc, Int32.le_iff_toInt_le, nI_m1 hn, nI_toInt (by omega)]; omega) ⟨Or.inr rfl, h⟩
theorem mx_0 {sm : jS} {x c : Int32} {n : Nat} {post : Int32 → jS → Prop} (hc : c = nI n) (hn : n ≤ 1000) (hx : x < 0 ∨ nI n ≤ x) (h : post 0 sm) : wp_Mo_isIn sm x 0 (c - 1) (fun r st => (r = 0 ∨ r = 1) ∧ post r st) := by
  refine mi_0 ?_ ⟨Or.inl rfl, h⟩
  rcases hx with q | q
  · exact Or.inl q
  · refine Or.inr fun q2 => ?_
    rw [hc, Int32.le_iff_toInt_le, nI_m1 hn] at q2
    rw [Int32.le_iff_toInt_le, nI_toInt (by omega)] at q
    omega
theorem rg_cases (x : Int32) {M : Int32} {n : Nat} (hM : M.toInt = n) : (x < 0 ∨ ¬ x ≤ M) ∨ ∃ j : Nat, j ≤ n ∧ x = nI j ∧ ¬ x < 0 ∧ x ≤ M := by
  by_cases h1 : x < 0
  · exact Or.inl (Or.inl h1)
  · by_cases h2 : x ≤ M
    · obtain ⟨j, hj, e⟩ := nI_of2 hM h1 h2
      exact Or.inr ⟨j, hj, e, h1, h2⟩
    · exact Or.inl (Or.inr h2)
/-- what was thrown, set to more than 0, or to 0 -/
theorem th_p {A B : Prop} {sm : jS} {t : Int32} (ht : ¬ t ≤ 0) (h : B) : ((jq sm 0 0 t) 0 0 ≤ 0 → A) ∧ (¬ (jq sm 0 0 t) 0 0 ≤ 0 → B) := ⟨fun q => absurd (jq_s (st := sm) (a := 0) (i := 0) (x := t) ▸ q) ht, fun _ => h⟩
theorem th_0 {A B : Prop} {sm : jS} (h : A) : ((jq sm 0 0 0) 0 0 ≤ 0 → A) ∧ (¬ (jq sm 0 0 0) 0 0 ≤ 0 → B) := ⟨fun _ => h, fun q => absurd (by rw [jq_s]; exact Int32.le_refl _) q⟩
/-- the end of a call that is refused: nothing has changed -/
theorem Rl_thr {K F : Nat} {st sm : jS} (x : Int32) (h : Rl K F st sm) : Rl K F st (jq sm 0 0 x) := by
  obtain ⟨n, b, hh, num, wid, ord, tau, gx, gy, gr, lr, ll, ls, hv, hk, hm⟩ := h
  exact ⟨n, b, hh, num, wid, ord, tau, gx, gy, gr, lr, ll, ls, hv, hk, mD_thr x hm⟩
theorem fin_x {K F : Nat} {st sm : jS} {f : Nat → Int64} {t r3 : Int32} (ht : ¬ t = 0) (h : Rl K F st sm) : wp_Mo_thrown (jq sm 0 0 t) (fun r5 u6 => r5 = t ∧ (t = 0 → f (Int32.toNatClampNeg 0) = r3.toInt64) ∧ Rl K F st u6) :=
  ⟨jq_s, fun q => absurd q ht, Rl_thr t h⟩
theorem fin_v {K F : Nat} {st sm : jS} {f : Nat → Int64} {r3 : Int32} (h : Rl K F st sm) (h0 : sm 0 0 = 0) : wp_Mo_thrown sm (fun r5 u6 => r5 = 0 ∧ ((0 : Int32) = 0 → (vp_updL f (Int32.toNatClampNeg 0) r3.toInt64) (Int32.toNatClampNeg 0) = r3.toInt64) ∧ Rl K F st u6) :=
  ⟨h0, fun _ => pk_uLs, h⟩
/-! ===== bound ===== -/
section UB
variable {K F n b h : Nat} {num : Nat → Nat → Nat} {wid ord : Nat → Nat} {tau gx gy : Nat → Int32} {gr : Nat → Nat → Nat} {lr : Nat → Nat} {ll ls : Nat → Nat → Nat} {st sm : jS}
theorem kD_b {j : Nat} (hk : kD K F n b h num wid ord tau gx gy gr lr ll ls st) : kD K F n j h num wid ord tau gx gy gr lr ll ls (jq st 2 5 (nI j)) := by
  obtain ⟨k0, k1, k2, k3, k4, k5, k6, k7, k8, k9, k10⟩ := hk
  refine ⟨k0, k1, ⟨?_, jq_s⟩, k3, k4, k5, ?_, k7, k8, ?_, ?_⟩
  · rw [jq_p (by omega)]; exact k2.1
  · intro e f he hf; rw [jq_o (by omega)]; exact k6 e f he hf
  · intro i k hi hk; rw [jq_o (by omega)]; exact k9 i k hi hk
  · intro k hk
    rw [jq_o (by omega)]
    exact ⟨(k10 k hk).1, fun r hr => by rw [jq_o (by omega), jq_o (by omega)]; exact (k10 k hk).2 r hr⟩
theorem mD_b {j : Nat} (hm : mD K F n b h num wid ord tau gx gy gr lr ll ls sm) : mD K F n j h num wid ord tau gx gy gr lr ll ls (jq sm 0 8 (nI j)) := by
  obtain ⟨m0, m1, m2, m3, m4, m5, m6, m7, m8⟩ := hm
  refine ⟨⟨?_, ?_⟩, ⟨?_, jq_s, ?_⟩, m2, m3, m4, m5, m6, m7, m8⟩
  · rw [jq_p (by omega)]; exact m0.1
  · rw [jq_p (by omega)]; exact m0.2
  · rw [jq_p (by omega)]; exact m1.1
  · rw [jq_p (by omega)]; exact m1.2.2
end UB
theorem p_7 (K F : Nat) : lOwe wc_7 K F (Rl K F) := by
  intro st f sm a1 a2 a3 a4 hR
  unfold wc_7 wp_Lw_bound wp_KT_bound
  rcases rg_cases a1 (M := 1000) (n := 1000) (by decide) with hx | ⟨j, hj, rfl, h1, h2⟩
  · refine nw_bad hx ⟨rfl, ?_⟩
    show wp_Mo_bound sm a1 _
    unfold wp_Mo_bound
    refine mi_0 hx ⟨fun v => v = 1, ?_, fun q => absurd rfl q, fun _ => rfl⟩
    rintro v rfl
    exact th_p (by decide) (fin_x (by decide) hR)
  · obtain ⟨n, b, h, num, wid, ord, tau, gx, gy, gr, lr, ll, ls, hv, hk, hm⟩ := hR
    obtain ⟨v0, v1, v2, v3, v4, v5, v6, v7, v8, v9, v10, v11⟩ := hv
    refine nw_ok h1 h2 ?_
    show wp_Mo_bound sm (nI j) _
    unfold wp_Mo_bound
    refine mi_1 h1 h2 ⟨fun v => v = 0, ?_, fun _ => rfl, fun q => absurd q (by decide)⟩
    rintro v rfl
    refine th_0 ?_
    rw [hk.2.2.1.2, jq_p (show 8 ≠ 0 by omega), hm.2.1.2.1]
    exact fin_v (f := f) ⟨n, j, h, num, wid, ord, tau, gx, gy, gr, lr, ll, ls, ⟨v0, v1, v2, hj, v4, v5, v6, v7, v8, v9, v10, v11⟩, kD_b hk, mD_b (mD_thr 0 hm)⟩ (by rw [jq_p (by omega), jq_s])
