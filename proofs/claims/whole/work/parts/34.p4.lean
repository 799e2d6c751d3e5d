/-! ===== example, haul, grams ===== -/
theorem kn_cases (x : Int32) {K : Nat} (hK : K ≤ 1000) : (x = -1 ∨ ∃ k, k < K ∧ x = nI k) ∨ (¬ x = -1 ∧ (x < 0 ∨ nI K ≤ x)) := by
  by_cases h : x = -1
  · exact Or.inl (Or.inl h)
  · rcases ix_cases x hK with q | q
    · exact Or.inr ⟨h, q⟩
    · exact Or.inl (Or.inr q)
theorem kn_ok {K F : Nat} {st : jS} {x : Int32} {post : jS → Prop} {xp : String → jS → Prop} (hc : st 0 0 = nI K) (hK : K ≤ 1000) (hx : x = -1 ∨ ∃ k, k < K ∧ x = nI k) (h : post st) : wp_KT_needKindOrNone K F st x post xp :=
  ⟨fun _ => h, fun q => by
    obtain ⟨k, hk, rfl⟩ := hx.resolve_left q
    exact nx_ok hc hk hK h⟩
theorem kn_bad {K F : Nat} {st : jS} {x : Int32} {post : jS → Prop} {xp : String → jS → Prop} (hc : st 0 0 = nI K) (hx : ¬ x = -1 ∧ (x < 0 ∨ nI K ≤ x)) (h : xp "java/lang/IndexOutOfBoundsException" st) : wp_KT_needKindOrNone K F st x post xp :=
  ⟨fun q => absurd q hx.1, fun _ => nx_bad hc hx.2 h⟩
theorem p_0 (K F : Nat) : lOwe wc_0 K F (Rl K F) := by
  intro st f sm a1 a2 a3 a4 hR
  obtain ⟨n, b, h, num, wid, ord, tau, gx, gy, gr, lr, ll, ls, hv, hk, hm⟩ := id hR
  obtain ⟨v0, v1, v2, v3, v4, v5, v6, v7, v8, v9, v10, v11⟩ := id hv
  have hn : sm 0 4 = nI n := hm.2.1.1
  have hk15 : st 1 5 = nI n := hk.2.1.2
  have hK9 : sm 0 1 = nI K := hm.1.1
  unfold wc_0 wp_Lw_example wp_KT_example
  rcases kn_cases a1 (K := K) (by omega) with hx | hx
  · refine kn_ok hk.1.1 (by omega) hx ?_
    rw [hk15]
    by_cases h24 : n < 24
    · refine ⟨fun _ => ?_, fun q => absurd (nI_lt (b := 24) h24 (by omega)) q⟩
      unfold wp_Ex_add
      have e1 : jq st 6 n a1 1 5 = nI n := (jq_o (by omega)).trans hk15
      rw [hk15, nI_clamp (by omega), e1, nI_1, jq_s, nI_pred]
      refine ⟨vp_in_nI h24 (by omega), ?_⟩
      show wp_Mo_example sm a1 _
      unfold wp_Mo_example
      refine ⟨fun s v => s = sm ∧ v = 0, ?_, fun _ => ⟨fun _ => ⟨rfl, rfl⟩, fun q => ?_⟩, fun q => ?_⟩
      · rintro s v ⟨rfl, rfl⟩
        refine th_0 ?_
        have e2 : jq s 0 0 0 0 4 = nI n := (jq_p (by omega)).trans hn
        have e3 : jq (jq s 0 0 0) 2 n a1 0 4 = nI n := (jq_o (by omega)).trans e2
        rw [e2, nI_clamp (by omega), e3, nI_1, jq_s, nI_pred]
        refine ⟨vp_in_nI h24 (by omega), ?_⟩
        refine fin_v (f := f) ⟨n + 1, b, h, num, wid, ord, upd tau n a1, gx, gy, gr, lr, ll, ls, ⟨v0, v1, by omega, v3, v4, v5, v6, ?_, v8, v9, v10, v11⟩, kD_n rfl (kD_tau a1 h24 hk), mD_n rfl (mD_tau a1 (mD_thr 0 hm))⟩ ?_
        · intro i
          unfold upd
          by_cases q : i = n
          · rw [if_pos q]; exact hx
          · rw [if_neg q]; exact v7 i
        · rw [jq_p (by omega), jq_o (by omega), jq_s]
      · rw [hn] at q
        exact absurd ((nI_eq (a := n) (b := 24) (by omega) (by omega)).mp q) (by omega)
      · obtain ⟨k, hk9, rfl⟩ := hx.resolve_left q
        refine mk_1 hK9 hk9 (by omega) ⟨fun _ => ⟨fun _ => ⟨rfl, rfl⟩, fun q => ?_⟩, fun q => absurd q (by decide)⟩
        rw [hn] at q
        exact absurd ((nI_eq (a := n) (b := 24) (by omega) (by omega)).mp q) (by omega)
    · have e24 : n = 24 := by omega
      subst e24
      refine ⟨fun q => absurd q (by decide), fun _ => Or.inr ⟨rfl, ?_⟩⟩
      show wp_Mo_example sm a1 _
      unfold wp_Mo_example
      refine ⟨fun s v => s = sm ∧ v = 2, ?_, fun _ => ⟨fun q => absurd hn q, fun _ => ⟨rfl, rfl⟩⟩, fun q => ?_⟩
      · rintro s v ⟨rfl, rfl⟩
        exact th_p (by decide) (fin_x (by decide) hR)
      · obtain ⟨k, hk9, rfl⟩ := hx.resolve_left q
        exact mk_1 hK9 hk9 (by omega) ⟨fun _ => ⟨fun q => absurd hn q, fun _ => ⟨rfl, rfl⟩⟩, fun q => absurd q (by decide)⟩
  · refine kn_bad hk.1.1 hx (Or.inl ⟨rfl, ?_⟩)
    show wp_Mo_example sm a1 _
    unfold wp_Mo_example
    refine ⟨fun s v => s = sm ∧ v = 1, ?_, fun q => absurd q hx.1, fun _ => mk_0 hK9 (by omega) hx.2 ⟨fun q => absurd rfl q, fun _ => ⟨rfl, rfl⟩⟩⟩
    rintro s v ⟨rfl, rfl⟩
    exact th_p (by decide) (fin_x (by decide) hR)
section UH
variable {K F n b h : Nat} {num : Nat → Nat → Nat} {wid ord : Nat → Nat} {tau gx gy : Nat → Int32} {gr : Nat → Nat → Nat} {lr : Nat → Nat} {ll ls : Nat → Nat → Nat} {st sm : jS}
theorem kD_haul {x y : Int32} (hk : kD K F n b h num wid ord tau gx gy gr lr ll ls st) : kD K F n b (h + 1) num wid ord tau (upd gx h x) (upd gy h y) gr lr ll ls (jq (jq (jq st 12 h x) 13 h y) 3 4 (nI (h + 1))) := by
  obtain ⟨k0, k1, k2, k3, k4, k5, k6, k7, k8, k9, k10⟩ := hk
  refine ⟨k0, k1, k2, ⟨?_, jq_s⟩, k4, k5, ?_, k7, ?_, ?_, ?_⟩
  · rw [jq_p (by omega), jq_o (by omega), jq_o (by omega)]; exact k3.1
  · intro e f he hf; rw [jq_o (by omega), jq_o (by omega), jq_o (by omega)]; exact k6 e f he hf
  · intro i hi
    unfold upd
    refine ⟨?_, ?_⟩
    · rw [jq_o (show 12 ≠ 3 by omega), jq_o (show 12 ≠ 13 by omega), jq_r]
      by_cases q : i = h
      · rw [if_pos ⟨rfl, q⟩, if_pos q]
      · rw [if_neg (fun z => q z.2), if_neg q]; exact (k8 i hi).1
    · rw [jq_o (show 13 ≠ 3 by omega), jq_r]
      by_cases q : i = h
      · rw [if_pos ⟨rfl, q⟩, if_pos q]
      · rw [if_neg (fun z => q z.2), if_neg q, jq_o (show 13 ≠ 12 by omega)]; exact (k8 i hi).2
  · intro i k hi hk; rw [jq_o (by omega), jq_o (by omega), jq_o (by omega)]; exact k9 i k hi hk
  · intro k hk
    rw [jq_o (by omega), jq_o (by omega), jq_o (by omega)]
    refine ⟨(k10 k hk).1, fun r hr => ?_⟩
    rw [jq_o (by omega), jq_o (by omega), jq_o (by omega), jq_o (by omega), jq_o (by omega), jq_o (by omega)]
    exact (k10 k hk).2 r hr
theorem mD_haul {x y : Int32} (hm : mD K F n b h num wid ord tau gx gy gr lr ll ls sm) : mD K F n b (h + 1) num wid ord tau (upd gx h x) (upd gy h y) gr lr ll ls (jq (jq (jq sm 5 h x) 6 h y) 0 9 (nI (h + 1))) := by
  obtain ⟨m0, m1, m2, m3, m4, m5, m6, m7, m8⟩ := hm
  refine ⟨⟨?_, ?_⟩, ⟨?_, ?_, jq_s⟩, m2, m3, m4, m5, ?_, m7, m8⟩
  · rw [jq_p (by omega), jq_o (by omega), jq_o (by omega)]; exact m0.1
  · rw [jq_p (by omega), jq_o (by omega), jq_o (by omega)]; exact m0.2
  · rw [jq_p (by omega), jq_o (by omega), jq_o (by omega)]; exact m1.1
  · rw [jq_p (by omega), jq_o (by omega), jq_o (by omega)]; exact m1.2.1
  · intro i hi
    unfold upd
    refine ⟨?_, ?_⟩
    · rw [jq_o (show 5 ≠ 0 by omega), jq_o (show 5 ≠ 6 by omega), jq_r]
      by_cases q : i = h
      · rw [if_pos ⟨rfl, q⟩, if_pos q]
      · rw [if_neg (fun z => q z.2), if_neg q]; exact (m6 i hi).1
    · rw [jq_o (show 6 ≠ 0 by omega), jq_r]
      by_cases q : i = h
      · rw [if_pos ⟨rfl, q⟩, if_pos q]
      · rw [if_neg (fun z => q z.2), if_neg q, jq_o (show 6 ≠ 5 by omega)]; exact (m6 i hi).2
theorem kD_gr {i k g : Nat} (hi : i < 12) (hk9 : k < K) (hK : K ≤ 6) (hk : kD K F n b h num wid ord tau gx gy gr lr ll ls st) : kD K F n b h num wid ord tau gx gy (fun a c => if a = i ∧ c = k then g else gr a c) lr ll ls (jq st (39 + i) k (nI g)) := by
  obtain ⟨k0, k1, k2, k3, k4, k5, k6, k7, k8, k9, k10⟩ := hk
  refine ⟨?_, ?_, ?_, ?_, ?_, ?_, ?_, ?_, ?_, ?_, ?_⟩
  · rw [jq_o (by omega), jq_o (by omega)]; exact k0
  · rw [jq_o (by omega), jq_o (by omega)]; exact k1
  · rw [jq_o (by omega), jq_o (by omega)]; exact k2
  · rw [jq_o (by omega), jq_o (by omega)]; exact k3
  · intro j hj; rw [jq_o (by omega)]; exact k4 j hj
  · intro j hj; rw [jq_o (by omega)]; exact k5 j hj
  · intro e f he hf; rw [jq_o (by omega)]; exact k6 e f he hf
  · intro j hj; rw [jq_o (by omega)]; exact k7 j hj
  · intro j hj; rw [jq_o (by omega), jq_o (by omega)]; exact k8 j hj
  · intro a c ha hc
    show jq _ _ _ _ _ _ = nI (if a = i ∧ c = k then g else gr a c)
    rw [jq_r]
    by_cases q : a = i ∧ c = k
    · rw [if_pos ⟨by omega, q.2⟩, if_pos q]
    · rw [if_neg (fun z => q ⟨by omega, z.2⟩), if_neg q]; exact k9 a c ha hc
  · intro c hc
    rw [jq_o (by omega)]
    exact ⟨(k10 c hc).1, fun r hr => by rw [jq_o (by omega), jq_o (by omega)]; exact (k10 c hc).2 r hr⟩
theorem mD_gr {i k g : Nat} (hk9 : k < K) (hK : K ≤ 6) (hm : mD K F n b h num wid ord tau gx gy gr lr ll ls sm) : mD K F n b h num wid ord tau gx gy (fun a c => if a = i ∧ c = k then g else gr a c) lr ll ls (jq sm 7 (6 * i + k) (nI g)) := by
  obtain ⟨m0, m1, m2, m3, m4, m5, m6, m7, m8⟩ := hm
  refine ⟨m0, m1, m2, m3, m4, m5, m6, ?_, m8⟩
  intro a c ha hc
  show jq _ _ _ _ _ _ = nI (if a = i ∧ c = k then g else gr a c)
  rw [jq_r]
  by_cases q : a = i ∧ c = k
  · rw [if_pos ⟨rfl, by rw [q.1, q.2]⟩, if_pos q]
  · rw [if_neg (fun z => q (by have := z.2; omega)), if_neg q]; exact m7 a c ha hc
end UH
theorem mul6 (e f : Nat) : ((6 : Int32) * nI e) + nI f = nI (6 * e + f) := by
  rw [show (6 : Int32) = nI 6 from rfl, pk_mul, nI_add]
theorem pl_cases (x : Int32) : (x < (-100 : Int32) ∨ ¬ x ≤ (100 : Int32)) ∨ (¬ x < (-100 : Int32) ∧ x ≤ (100 : Int32) ∧ -100 ≤ x.toInt ∧ x.toInt ≤ 100) := by
  by_cases h1 : x < (-100 : Int32)
  · exact Or.inl (Or.inl h1)
  · by_cases h2 : x ≤ (100 : Int32)
    · refine Or.inr ⟨h1, h2, ?_, ?_⟩
      · rw [Int32.lt_iff_toInt_lt, show (-100 : Int32).toInt = -100 by decide] at h1; omega
      · rw [Int32.le_iff_toInt_le, show (100 : Int32).toInt = 100 by decide] at h2; exact h2
    · exact Or.inl (Or.inr h2)
theorem p_17 (K F : Nat) : lOwe wc_17 K F (Rl K F) := by
  intro st f sm a1 a2 a3 a4 hR
  obtain ⟨n, b, h, num, wid, ord, tau, gx, gy, gr, lr, ll, ls, hv, hk, hm⟩ := id hR
  obtain ⟨v0, v1, v2, v3, v4, v5, v6, v7, v8, v9, v10, v11⟩ := id hv
  have hh : sm 0 9 = nI h := hm.2.1.2.2
  have hk34 : st 3 4 = nI h := hk.2.2.2.1.2
  unfold wc_17 wp_Lw_haul wp_KT_haul
  rcases pl_cases a1 with hx | ⟨x1, x2, x3, x4⟩
  · refine nw_bad hx (Or.inl ⟨rfl, ?_⟩)
    show wp_Mo_haul sm a1 a2 _
    unfold wp_Mo_haul
    refine mi_0 hx ⟨fun s v => s = sm ∧ v = 1, ?_, fun _ => ⟨rfl, rfl⟩, fun q => absurd rfl q⟩
    rintro s v ⟨rfl, rfl⟩
    exact th_p (by decide) (fin_x (by decide) hR)
  · refine nw_ok x1 x2 ?_
    rcases pl_cases a2 with hy | ⟨y1, y2, y3, y4⟩
    · refine nw_bad hy (Or.inl ⟨rfl, ?_⟩)
      show wp_Mo_haul sm a1 a2 _
      unfold wp_Mo_haul
      refine mi_1 x1 x2 ⟨fun s v => s = sm ∧ v = 1, ?_, fun q => absurd q (by decide), fun _ => mi_0 hy ⟨fun q => absurd rfl q, fun _ => ⟨rfl, rfl⟩⟩⟩
      rintro s v ⟨rfl, rfl⟩
      exact th_p (by decide) (fin_x (by decide) hR)
    · refine nw_ok y1 y2 ?_
      show ((st 3 4) < (12 : Int32) → _) ∧ (¬ (st 3 4) < (12 : Int32) → _)
      rw [hk34]
      by_cases h12 : h < 12
      · refine ⟨fun _ => ?_, fun q => absurd (nI_lt (b := 12) h12 (by omega)) q⟩
        unfold wp_Ha_add
        have e1 : jq st 12 h a1 3 4 = nI h := (jq_o (by omega)).trans hk34
        have e2 : jq (jq st 12 h a1) 13 h a2 3 4 = nI h := (jq_o (by omega)).trans e1
        rw [hk34, nI_clamp (by omega), e1, nI_clamp (by omega), e2, nI_1, jq_s, nI_pred]
        refine ⟨vp_in_nI h12 (by omega), vp_in_nI h12 (by omega), ?_⟩
        show wp_Mo_haul sm a1 a2 _
        unfold wp_Mo_haul
        refine mi_1 x1 x2 ⟨fun s v => s = sm ∧ v = 0, ?_, fun q => absurd q (by decide), fun _ => mi_1 y1 y2 ⟨fun _ => ⟨fun _ => ⟨rfl, rfl⟩, fun q => ?_⟩, fun q => absurd q (by decide)⟩⟩
        · rintro s v ⟨rfl, rfl⟩
          refine th_0 ?_
          have g0 : jq s 0 0 0 0 9 = nI h := (jq_p (by omega)).trans hh
          have g1 : jq (jq s 0 0 0) 5 h a1 0 9 = nI h := (jq_o (by omega)).trans g0
          have g2 : jq (jq (jq s 0 0 0) 5 h a1) 6 h a2 0 9 = nI h := (jq_o (by omega)).trans g1
          rw [g0, nI_clamp (by omega), g1, nI_clamp (by omega), g2, nI_1, jq_s, nI_pred]
          refine ⟨vp_in_nI h12 (by omega), vp_in_nI h12 (by omega), ?_⟩
          refine fin_v (f := f) ⟨n, b, h + 1, num, wid, ord, tau, upd gx h a1, upd gy h a2, gr, lr, ll, ls, ⟨v0, v1, v2, v3, by omega, v5, v6, v7, v8, ?_, v10, v11⟩, kD_haul hk, mD_haul (mD_thr 0 hm)⟩ ?_
          · intro i
            unfold upd
            by_cases q : i = h
            · rw [if_pos q, if_pos q]; exact ⟨⟨x3, x4⟩, ⟨y3, y4⟩⟩
            · rw [if_neg q, if_neg q]; exact v9 i
          · rw [jq_p (by omega), jq_o (by omega), jq_o (by omega), jq_s]
        · rw [hh] at q
          exact absurd ((nI_eq (a := h) (b := 12) (by omega) (by omega)).mp q) (by omega)
      · have e12 : h = 12 := by omega
        subst e12
        refine ⟨fun q => absurd q (by decide), fun _ => Or.inr ⟨rfl, ?_⟩⟩
        show wp_Mo_haul sm a1 a2 _
        unfold wp_Mo_haul
        refine mi_1 x1 x2 ⟨fun s v => s = sm ∧ v = 2, ?_, fun q => absurd q (by decide), fun _ => mi_1 y1 y2 ⟨fun _ => ⟨fun q => absurd hh q, fun _ => ⟨rfl, rfl⟩⟩, fun q => absurd q (by decide)⟩⟩
        rintro s v ⟨rfl, rfl⟩
        exact th_p (by decide) (fin_x (by decide) hR)
theorem mh_1 {sm : jS} {j n : Nat} {c : Int32} {post : Int32 → jS → Prop} (hc : c = nI n) (hj : j < n) (hn : n ≤ 1000) (h : post 1 sm) : wp_Mo_isIn sm (nI j) 0 (c - 1) post :=
  mi_1 (nI_pos (by omega)) (by rw [hc, Int32.le_iff_toInt_le, nI_m1 hn, nI_toInt (by omega)]; omega) h
theorem mh_0 {sm : jS} {x c : Int32} {n : Nat} {post : Int32 → jS → Prop} (hc : c = nI n) (hn : n ≤ 1000) (hx : x < 0 ∨ nI n ≤ x) (h : post 0 sm) : wp_Mo_isIn sm x 0 (c - 1) post := by
  refine mi_0 ?_ h
  rcases hx with q | q
  · exact Or.inl q
  · refine Or.inr fun q2 => ?_
    rw [hc, Int32.le_iff_toInt_le, nI_m1 hn] at q2
    rw [Int32.le_iff_toInt_le, nI_toInt (by omega)] at q
    omega
theorem p_18 (K F : Nat) : lOwe wc_18 K F (Rl K F) := by
  intro st f sm a1 a2 a3 a4 hR
  obtain ⟨n, b, h, num, wid, ord, tau, gx, gy, gr, lr, ll, ls, hv, hk, hm⟩ := id hR
  obtain ⟨v0, v1, v2, v3, v4, v5, v6, v7, v8, v9, v10, v11⟩ := id hv
  have hh : sm 0 9 = nI h := hm.2.1.2.2
  have hK9 : sm 0 1 = nI K := hm.1.1
  unfold wc_18 wp_Lw_grams wp_KT_grams
  rcases ix_cases a1 (n := h) (by omega) with hx | ⟨e, he, rfl⟩
  · refine nx_bad hk.2.2.2.1.2 hx (Or.inl ⟨rfl, ?_⟩)
    show wp_Mo_grams sm a1 a2 a3 _
    unfold wp_Mo_grams
    refine mh_0 hh (by omega) hx ⟨fun s v => s = sm ∧ v = 1, ?_, fun _ => ⟨rfl, rfl⟩, fun q => absurd rfl q⟩
    rintro s v ⟨rfl, rfl⟩
    exact th_p (by decide) (fin_x (by decide) hR)
  · refine nx_ok hk.2.2.2.1.2 he (by omega) ?_
    rcases ix_cases a2 (n := K) (by omega) with hx | ⟨k, hk9, rfl⟩
    · refine nx_bad hk.1.1 hx (Or.inl ⟨rfl, ?_⟩)
      show wp_Mo_grams sm (nI e) a2 a3 _
      unfold wp_Mo_grams
      refine mh_1 hh he (by omega) ⟨fun s v => s = sm ∧ v = 1, ?_, fun q => absurd q (by decide), fun _ => mk_0 hK9 (by omega) hx ⟨fun q => absurd rfl q, fun _ => ⟨rfl, rfl⟩⟩⟩
      rintro s v ⟨rfl, rfl⟩
      exact th_p (by decide) (fin_x (by decide) hR)
    · refine nx_ok hk.1.1 hk9 (by omega) ?_
      rcases rg_cases a3 (M := 1000) (n := 1000) (by decide) with hx | ⟨w, hw, rfl, h1, h2⟩
      · refine nw_bad hx (Or.inr ⟨rfl, ?_⟩)
        show wp_Mo_grams sm (nI e) (nI k) a3 _
        unfold wp_Mo_grams
        refine mh_1 hh he (by omega) ⟨fun s v => s = sm ∧ v = 2, ?_, fun q => absurd q (by decide), fun _ => mk_1 hK9 hk9 (by omega) ⟨fun _ => mi_0 hx ⟨fun q => absurd rfl q, fun _ => ⟨rfl, rfl⟩⟩, fun q => absurd q (by decide)⟩⟩
        rintro s v ⟨rfl, rfl⟩
        exact th_p (by decide) (fin_x (by decide) hR)
      · refine nw_ok h1 h2 ⟨vp_in_nI (by omega) (by omega), vp_in_nI hk9 (by omega), vp_in_nI (by omega) (by omega), vp_in_nI hk9 (by omega), ?_⟩
        rw [nI_clamp (show e < 2 ^ 31 by omega), nI_clamp (show k < 2 ^ 31 by omega), hk.2.2.2.2.2.2.2.2.2.1 e k (by omega) hk9]
        show wp_Mo_grams sm (nI e) (nI k) (nI w) _
        unfold wp_Mo_grams
        refine mh_1 hh he (by omega) ⟨fun s v => s = sm ∧ v = 0, ?_, fun q => absurd q (by decide), fun _ => mk_1 hK9 hk9 (by omega) ⟨fun _ => mi_1 h1 h2 ⟨fun _ => ⟨rfl, rfl⟩, fun q => absurd q (by decide)⟩, fun q => absurd q (by decide)⟩⟩
        rintro s v ⟨rfl, rfl⟩
        rw [mul6, nI_clamp (show 6 * e + k < 2 ^ 31 by omega)]
        refine th_0 ⟨vp_in_nI (by omega) (by omega), vp_in_nI (by omega) (by omega), ?_⟩
        rw [jq_o (by omega), hm.2.2.2.2.2.2.2.1 e k (by omega) hk9]
        refine fin_v (f := f) ⟨n, b, h, num, wid, ord, tau, gx, gy, fun a c => if a = e ∧ c = k then w else gr a c, lr, ll, ls, ⟨v0, v1, v2, v3, v4, v5, v6, v7, v8, v9, ?_, v11⟩, kD_gr (by omega) hk9 (by omega) hk, mD_gr hk9 (by omega) (mD_thr 0 hm)⟩ (by rw [jq_o (by omega), jq_s])
        intro a c
        show (if a = e ∧ c = k then w else gr a c) ≤ 1000
        by_cases q : a = e ∧ c = k
        · rw [if_pos q]; exact hw
        · rw [if_neg q]; exact v10 a c
