/-! ===== width, cell, value, example ===== -/
theorem rg1_cases (x : Int32) {M : Int32} {n : Nat} (hM : M.toInt = n) : (x < 1 ∨ ¬ x ≤ M) ∨ ∃ j : Nat, 1 ≤ j ∧ j ≤ n ∧ x = nI j ∧ ¬ x < 1 ∧ x ≤ M := by
  by_cases h1 : x < 1
  · exact Or.inl (Or.inl h1)
  · by_cases h2 : x ≤ M
    · have h3 : (1 : Int32) ≤ x := Int32.not_lt.mp h1
      obtain ⟨j, hj, e⟩ := nI_of2 hM (i32_ge1 h3) h2
      refine Or.inr ⟨j, ?_, hj, e, h1, h2⟩
      have h4 := M.toInt_lt
      rw [e, Int32.le_iff_toInt_le, i32_1, nI_toInt (by omega)] at h3
      omega
    · exact Or.inl (Or.inr h2)
theorem p_3 (K F : Nat) : lOwe wc_3 K F (Rl K F) := by
  intro st f sm a1 a2 a3 a4 hR
  obtain ⟨n, b, h, num, wid, ord, tau, gx, gy, gr, lr, ll, ls, hv, hk, hm⟩ := id hR
  obtain ⟨v0, v1, v2, v3, v4, v5, v6, v7, v8, v9, v10, v11⟩ := id hv
  have hF : sm 0 2 = nI F := hm.1.2
  unfold wc_3 wp_Lw_width wp_KT_width
  rcases ix_cases a1 (n := F) (by omega) with hx | ⟨g, hg, rfl⟩
  · refine nx_bad hk.1.2 hx (Or.inl ⟨rfl, ?_⟩)
    show wp_Mo_width sm a1 a2 _
    unfold wp_Mo_width
    refine mf_0 hF (by omega) hx ⟨fun s v => s = sm ∧ v = 1, ?_, fun q => absurd rfl q, fun _ => ⟨rfl, rfl⟩⟩
    rintro s v ⟨rfl, rfl⟩
    exact th_p (by decide) (fin_x (by decide) hR)
  · refine nx_ok hk.1.2 hg (by omega) ?_
    rcases rg1_cases a2 (M := 1000) (n := 1000) (by decide) with hx | ⟨w, hw1, hw2, rfl, h1, h2⟩
    · refine nw_bad hx (Or.inr ⟨rfl, ?_⟩)
      show wp_Mo_width sm (nI g) a2 _
      unfold wp_Mo_width
      refine mf_1 hF hg (by omega) ⟨fun s v => s = sm ∧ v = 2, ?_, fun _ => mi_0 hx ⟨fun q => absurd rfl q, fun _ => ⟨rfl, rfl⟩⟩, fun q => absurd q (by decide)⟩
      rintro s v ⟨rfl, rfl⟩
      exact th_p (by decide) (fin_x (by decide) hR)
    · refine nw_ok h1 h2 ⟨vp_in_nI hg (by omega), vp_in_nI hg (by omega), ?_⟩
      show wp_Mo_width sm (nI g) (nI w) _
      unfold wp_Mo_width
      refine mf_1 hF hg (by omega) ⟨fun s v => s = sm ∧ v = 0, ?_, fun _ => mi_1 h1 h2 ⟨fun _ => ⟨rfl, rfl⟩, fun q => absurd q (by decide)⟩, fun q => absurd q (by decide)⟩
      rintro s v ⟨rfl, rfl⟩
      refine th_0 ⟨vp_in_nI (by omega) (by omega), vp_in_nI (by omega) (by omega), ?_⟩
      rw [nI_clamp (by omega), hk.2.2.2.2.2.1 g hg, jq_o (by omega), hm.2.2.2.1 g hg]
      refine fin_v (f := f) ⟨n, b, h, num, fun i => if i = g then w else wid i, ord, tau, gx, gy, gr, lr, ll, ls, ⟨v0, v1, v2, v3, v4, v5, ?_, v7, v8, v9, v10, v11⟩, kD_wid hg hk, mD_wid (mD_thr 0 hm)⟩ (by rw [jq_o (by omega), jq_s])
      intro i
      show 1 ≤ (if i = g then w else wid i) ∧ (if i = g then w else wid i) ≤ 1000
      by_cases q : i = g
      · rw [if_pos q]; exact ⟨hw1, hw2⟩
      · rw [if_neg q]; exact v6 i
section CE
variable {K F n b h : Nat} {num : Nat → Nat → Nat} {wid ord : Nat → Nat} {tau gx gy : Nat → Int32} {gr : Nat → Nat → Nat} {lr : Nat → Nat} {ll ls : Nat → Nat → Nat} {st sm : jS}
theorem mul11 (e f : Nat) : ((11 : Int32) * nI e) + nI f = nI (11 * e + f) := by
  rw [show (11 : Int32) = nI 11 from rfl, pk_mul, nI_add]
/-- the cell of an example by a feature -/
theorem kx_cell {e f : Nat} {post : Int32 → jS → Prop} (hv : vD K F n b h num wid ord tau gx gy gr lr ll ls) (hk : kD K F n b h num wid ord tau gx gy gr lr ll ls st) (he : e < 24) (hf : f < F) (hp : post (nI (num e f / wid f)) st) : wp_Ex_cellOf K F st (nI e) (nI f) post := by
  obtain ⟨v0, v1, v2, v3, v4, v5, v6, v7, v8, v9, v10, v11⟩ := hv
  have := v5 e f
  have hw := v6 f
  unfold wp_Ex_cellOf
  rw [nI_clamp (show e < 2 ^ 31 by omega), nI_clamp (show f < 2 ^ 31 by omega), hk.2.2.2.2.2.2.1 e f he hf, hk.2.2.2.2.2.1 f hf, pk_div (by omega) (by omega) (by omega)]
  exact ⟨vp_in_nI hf (by omega), fun _ => ⟨vp_in_nI he (by omega), vp_in_nI hf (by omega), nI_ne0 (by omega) (by omega), hp⟩, fun q => absurd ((nI_leI (a := 1) (by omega) (by omega)).mpr (by omega)) q⟩
theorem mx_cell {e f : Nat} {post : Int32 → jS → Prop} (hv : vD K F n b h num wid ord tau gx gy gr lr ll ls) (hm : mD K F n b h num wid ord tau gx gy gr lr ll ls sm) (he : e < 24) (hf : f < F) (hp : post (nI (num e f / wid f)) sm) : wp_Mo_cellOf sm (nI e) (nI f) post := by
  obtain ⟨v0, v1, v2, v3, v4, v5, v6, v7, v8, v9, v10, v11⟩ := hv
  have := v5 e f
  have hw := v6 f
  unfold wp_Mo_cellOf
  rw [mul11, nI_clamp (show 11 * e + f < 2 ^ 31 by omega), nI_clamp (show f < 2 ^ 31 by omega), hm.2.2.2.2.1 e f he hf, hm.2.2.2.1 f hf, pk_div (by omega) (by omega) (by omega)]
  exact ⟨vp_in_nI (by omega) (by omega), vp_in_nI (by omega) (by omega), nI_ne0 (by omega) (by omega), hp⟩
end CE
theorem p_4 (K F : Nat) : lOwe wc_4 K F (Rl K F) := by
  intro st f sm a1 a2 a3 a4 hR
  obtain ⟨n, b, h, num, wid, ord, tau, gx, gy, gr, lr, ll, ls, hv, hk, hm⟩ := id hR
  obtain ⟨v0, v1, v2, v3, v4, v5, v6, v7, v8, v9, v10, v11⟩ := id hv
  have hn : sm 0 4 = nI n := hm.2.1.1
  have hF : sm 0 2 = nI F := hm.1.2
  unfold wc_4 wp_Lw_cell wp_KT_cell
  rcases ix_cases a1 (n := n) (by omega) with hx | ⟨e, he, rfl⟩
  · refine nx_bad hk.2.1.2 hx ⟨rfl, ?_⟩
    show wp_Mo_cell sm a1 a2 _
    unfold wp_Mo_cell
    refine me_0 hn (by omega) hx ⟨fun s v => s = sm ∧ v = 1, ?_, fun _ => ⟨rfl, rfl⟩, fun q => absurd rfl q⟩
    rintro s v ⟨rfl, rfl⟩
    exact th_p (by decide) (fin_x (by decide) hR)
  · refine nx_ok hk.2.1.2 he (by omega) ?_
    rcases ix_cases a2 (n := F) (by omega) with hx | ⟨g, hg, rfl⟩
    · refine nx_bad hk.1.2 hx ⟨rfl, ?_⟩
      show wp_Mo_cell sm (nI e) a2 _
      unfold wp_Mo_cell
      refine me_1 hn he (by omega) ⟨fun s v => s = sm ∧ v = 1, ?_, fun q => absurd q (by decide), fun _ => mf_0 hF (by omega) hx ⟨fun q => absurd rfl q, fun _ => ⟨rfl, rfl⟩⟩⟩
      rintro s v ⟨rfl, rfl⟩
      exact th_p (by decide) (fin_x (by decide) hR)
    · refine nx_ok hk.1.2 hg (by omega) (kx_cell hv hk (by omega) hg ?_)
      show wp_Mo_cell sm (nI e) (nI g) _
      unfold wp_Mo_cell
      refine me_1 hn he (by omega) ⟨fun s v => s = sm ∧ v = 0, ?_, fun q => absurd q (by decide), fun _ => mf_1 hF hg (by omega) ⟨fun _ => ⟨rfl, rfl⟩, fun q => absurd q (by decide)⟩⟩
      rintro s v ⟨rfl, rfl⟩
      exact th_0 (mx_cell hv (mD_thr 0 hm) (by omega) hg (fin_v (f := f) (Rl_thr 0 hR) jq_s))
theorem p_1 (K F : Nat) : lOwe wc_1 K F (Rl K F) := by
  intro st f sm a1 a2 a3 a4 hR
  obtain ⟨n, b, h, num, wid, ord, tau, gx, gy, gr, lr, ll, ls, hv, hk, hm⟩ := id hR
  obtain ⟨v0, v1, v2, v3, v4, v5, v6, v7, v8, v9, v10, v11⟩ := id hv
  have hn : sm 0 4 = nI n := hm.2.1.1
  have hF : sm 0 2 = nI F := hm.1.2
  have hbad : ∀ t : Int32, ¬ t = 0 → ∀ r3 : Int32, wp_Mo_thrown (jq sm 0 0 t) (fun r5 u6 => r5 = t ∧ (t = 0 → ((r3 = 0 → f (Int32.toNatClampNeg 0) = 0) ∧ (¬ r3 = 0 → f (Int32.toNatClampNeg 0) = 1))) ∧ Rl K F st u6) := fun t ht r3 => ⟨jq_s, fun q => absurd q ht, Rl_thr t hR⟩
  unfold wc_1 wp_Lw_value wp_KT_value
  rcases ix_cases a1 (n := n) (by omega) with hx | ⟨e, he, rfl⟩
  · refine nx_bad hk.2.1.2 hx (Or.inl ⟨rfl, ?_⟩)
    show wp_Mo_value sm a1 a2 a3 _
    unfold wp_Mo_value
    refine me_0 hn (by omega) hx ⟨fun s v => s = sm ∧ v = 1, ?_, fun _ => ⟨rfl, rfl⟩, fun q => absurd rfl q⟩
    rintro s v ⟨rfl, rfl⟩
    exact th_p (by decide) (hbad 1 (by decide) 0)
  · refine nx_ok hk.2.1.2 he (by omega) ?_
    rcases ix_cases a2 (n := F) (by omega) with hx | ⟨g, hg, rfl⟩
    · refine nx_bad hk.1.2 hx (Or.inl ⟨rfl, ?_⟩)
      show wp_Mo_value sm (nI e) a2 a3 _
      unfold wp_Mo_value
      refine me_1 hn he (by omega) ⟨fun s v => s = sm ∧ v = 1, ?_, fun q => absurd q (by decide), fun _ => mf_0 hF (by omega) hx ⟨fun q => absurd rfl q, fun _ => ⟨rfl, rfl⟩⟩⟩
      rintro s v ⟨rfl, rfl⟩
      exact th_p (by decide) (hbad 1 (by decide) 0)
    · refine nx_ok hk.1.2 hg (by omega) ?_
      rcases rg_cases a3 (M := 2000) (n := 2000) (by decide) with hx | ⟨w, hw, rfl, h1, h2⟩
      · refine nw_bad hx (Or.inr ⟨rfl, ?_⟩)
        show wp_Mo_value sm (nI e) (nI g) a3 _
        unfold wp_Mo_value
        refine me_1 hn he (by omega) ⟨fun s v => s = sm ∧ v = 2, ?_, fun q => absurd q (by decide), fun _ => mf_1 hF hg (by omega) ⟨fun _ => mi_0 hx ⟨fun q => absurd rfl q, fun _ => ⟨rfl, rfl⟩⟩, fun q => absurd q (by decide)⟩⟩
        rintro s v ⟨rfl, rfl⟩
        exact th_p (by decide) (hbad 2 (by decide) 0)
      · have hR2 : Rl K F (jq st (15 + e) g (nI w)) (jq (jq sm 0 0 0) 3 (11 * e + g) (nI w)) := by
          refine ⟨n, b, h, fun a c => if a = e ∧ c = g then w else num a c, wid, ord, tau, gx, gy, gr, lr, ll, ls, ⟨v0, v1, v2, v3, v4, ?_, v6, v7, v8, v9, v10, v11⟩, kD_num (by omega) hk, mD_num (by omega) hg (mD_thr 0 hm)⟩
          intro a c
          show (if a = e ∧ c = g then w else num a c) ≤ 2000
          by_cases q : a = e ∧ c = g
          · rw [if_pos q]; exact hw
          · rw [if_neg q]; exact v5 a c
        have hmo : ∀ (r : Int64), (nI (num e g) = nI w → r = 0) → (¬ nI (num e g) = nI w → r = 1) → wp_Mo_value sm (nI e) (nI g) (nI w) (fun r3 u4 => wp_Mo_thrown u4 (fun r5 u6 => r5 = 0 ∧ ((0 : Int32) = 0 → ((r3 = 0 → (vp_updL f (Int32.toNatClampNeg 0) r) (Int32.toNatClampNeg 0) = 0) ∧ (¬ r3 = 0 → (vp_updL f (Int32.toNatClampNeg 0) r) (Int32.toNatClampNeg 0) = 1))) ∧ Rl K F (jq st (15 + e) g (nI w)) u6)) := by
          intro r hr0 hr1
          unfold wp_Mo_value
          refine me_1 hn he (by omega) ⟨fun s v => s = sm ∧ v = 0, ?_, fun q => absurd q (by decide), fun _ => mf_1 hF hg (by omega) ⟨fun _ => mi_1 h1 h2 ⟨fun _ => ⟨rfl, rfl⟩, fun q => absurd q (by decide)⟩, fun q => absurd q (by decide)⟩⟩
          rintro s v ⟨rfl, rfl⟩
          rw [mul11, nI_clamp (show 11 * e + g < 2 ^ 31 by omega)]
          refine th_0 ⟨vp_in_nI (by omega) (by omega), fun v => (nI (num e g) = nI w ∧ v = 0) ∨ (¬ nI (num e g) = nI w ∧ v = 1), ?_, ?_⟩
          · intro v hv9
            refine ⟨vp_in_nI (by omega) (by omega), hv9.elim (fun q => Or.inl q.2) (fun q => Or.inr q.2), ?_⟩
            refine ⟨by rw [jq_o (by omega), jq_s], fun _ => ⟨fun q => ?_, fun q => ?_⟩, hR2⟩
            · rw [pk_uLs]
              rcases hv9 with z | z
              · exact hr0 z.1
              · rw [z.2] at q; exact absurd q (by decide)
            · rw [pk_uLs]
              rcases hv9 with z | z
              · exact absurd z.2 q
              · exact hr1 z.1
          · rw [jq_o (by omega), hm.2.2.2.2.1 e g (by omega) hg]
            exact ⟨fun q => Or.inl ⟨q, rfl⟩, fun q => Or.inr ⟨q, rfl⟩⟩
        refine nw_ok h1 h2 ⟨vp_in_nI (by omega) (by omega), vp_in_nI hg (by omega), vp_in_nI (by omega) (by omega), vp_in_nI hg (by omega), ?_⟩
        rw [nI_clamp (show e < 2 ^ 31 by omega), nI_clamp (show g < 2 ^ 31 by omega), hk.2.2.2.2.2.2.1 e g (by omega) hg]
        refine ⟨fun q => ⟨fun _ => hmo 0 (fun _ => rfl) (fun z => absurd q z), fun z => absurd rfl z⟩, fun q => ⟨fun z => absurd z (by decide), fun _ => hmo 1 (fun z => absurd z q) (fun _ => rfl)⟩⟩
