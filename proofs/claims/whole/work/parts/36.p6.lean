theorem mi_a {sm : jS} {x lo hi : Int32} {post : Int32 → jS → Prop} (h0 : post 0 sm) (h1 : post 1 sm) : wp_Mo_isIn sm x lo hi post := ⟨fun _ => h0, fun _ => ⟨fun _ => h0, fun _ => h1⟩⟩
/-- the reference's way to what law must throw -/
theorem ml_law {K c k : Nat} {sm : jS} {l2 l3 : Int32} {post : Int32 → jS → Prop} (v : Int32) (hK9 : sm 0 1 = nI K) (hK : K ≤ 6) (hk9 : k < K) (hc : sm 8 k = nI c) (hc6 : c ≤ 6)
    (h : wp_Mo_isIn sm l2 1 1000 (fun r7 st6 => st6 = sm ∧ ((r7 = 0 → v = 0) ∧ (¬ r7 = 0 → wp_Mo_isIn st6 l3 0 2000 (fun r10 st9 => st9 = sm ∧ ((r10 = 0 → v = 0) ∧ (¬ r10 = 0 → (c = 0 → v = 1) ∧ (0 < c → (l2 ≤ sm 9 (6 * k + (c - 1)) → v = 0) ∧ (¬ l2 ≤ sm 9 (6 * k + (c - 1)) → v = 1)))))))))
    (hv : v = 0 ∨ v = 1)
    (h2 : v = 0 → post 0 (jq sm 0 0 2)) (h3 : v = 1 → c = 6 → post 0 (jq sm 0 0 3))
    (h1 : v = 1 → c < 6 → post (nI (c + 1)) (jq (jq (jq (jq sm 0 0 0) 9 (6 * k + c) l2) 10 (6 * k + c) l3) 8 k (nI (c + 1)))) : wp_Mo_law sm (nI k) l2 l3 post := by
  unfold wp_Mo_law
  refine mk_1 hK9 hk9 (by omega) ⟨fun v5 => v5 = nI c, ?_, fun q => absurd q (by decide), fun _ => ⟨vp_in_nI (by omega) (by omega), by rw [nI_clamp (by omega)]; exact hc⟩⟩
  rintro v5 rfl
  have J : ∀ (st14 : jS) (v15 : Int32), (st14 = sm ∧ v15 = v) → wp_Mo_isKind st14 (nI k) (fun r17 st16 => (∃ j18 : Int32 → Prop, (∀ (v19 : Int32), j18 v19 → ((((jq st16 0 0 v19) 0 0) ≤ 0 → vp_in (((6 : Int32) * (nI k)) + (nI c)) 36 ∧ vp_in (((6 : Int32) * (nI k)) + (nI c)) 36 ∧ vp_in (nI k) 6 ∧ vp_in (nI k) 6 ∧ vp_in (nI k) 6 ∧ post ((jq (jq (jq (jq st16 0 0 v19) 9 (Int32.toNatClampNeg (((6 : Int32) * (nI k)) + (nI c))) l2) 10 (Int32.toNatClampNeg (((6 : Int32) * (nI k)) + (nI c))) l3) 8 (Int32.toNatClampNeg (nI k)) (((jq (jq (jq st16 0 0 v19) 9 (Int32.toNatClampNeg (((6 : Int32) * (nI k)) + (nI c))) l2) 10 (Int32.toNatClampNeg (((6 : Int32) * (nI k)) + (nI c))) l3) 8 (Int32.toNatClampNeg (nI k))) + (1 : Int32))) 8 (Int32.toNatClampNeg (nI k))) (jq (jq (jq (jq st16 0 0 v19) 9 (Int32.toNatClampNeg (((6 : Int32) * (nI k)) + (nI c))) l2) 10 (Int32.toNatClampNeg (((6 : Int32) * (nI k)) + (nI c))) l3) 8 (Int32.toNatClampNeg (nI k)) (((jq (jq (jq st16 0 0 v19) 9 (Int32.toNatClampNeg (((6 : Int32) * (nI k)) + (nI c))) l2) 10 (Int32.toNatClampNeg (((6 : Int32) * (nI k)) + (nI c))) l3) 8 (Int32.toNatClampNeg (nI k))) + (1 : Int32)))) ∧ (¬ ((jq st16 0 0 v19) 0 0) ≤ 0 → post (0 : Int32) (jq st16 0 0 v19)))) ∧ ((¬ r17 = 0 → ((¬ v15 = 0 → ((¬ nI c = (6 : Int32) → j18 (0 : Int32)) ∧ (nI c = (6 : Int32) → j18 (3 : Int32)))) ∧ (v15 = 0 → j18 (2 : Int32)))) ∧ (r17 = 0 → j18 (1 : Int32))))) := by
    rintro s v15 ⟨rfl, rfl⟩
    refine mk_1 hK9 hk9 (by omega) ⟨fun w => (v15 = 0 ∧ w = 2) ∨ (v15 = 1 ∧ c = 6 ∧ w = 3) ∨ (v15 = 1 ∧ c < 6 ∧ w = 0), ?_, fun _ => ⟨fun q => ⟨fun q2 => ?_, fun q2 => ?_⟩, fun q => Or.inl ⟨q, rfl⟩⟩, fun q => absurd q (by decide)⟩
    · rintro w (⟨q, rfl⟩ | ⟨q, q2, rfl⟩ | ⟨q, q2, rfl⟩)
      · exact th_p (by decide) (h2 q)
      · exact th_p (by decide) (h3 q q2)
      · refine th_0 ?_
        rw [mul6, nI_clamp (show 6 * k + c < 2 ^ 31 by omega), nI_clamp (show k < 2 ^ 31 by omega)]
        refine ⟨vp_in_nI (by omega) (by omega), vp_in_nI (by omega) (by omega), vp_in_nI (by omega) (by omega), vp_in_nI (by omega) (by omega), vp_in_nI (by omega) (by omega), ?_⟩
        rw [jq_s, show jq (jq (jq s 0 0 0) 9 (6 * k + c) l2) 10 (6 * k + c) l3 8 k = nI c by rw [jq_o (by omega), jq_o (by omega), jq_o (by omega)]; exact hc, nI_1]
        exact h1 q q2
    · refine Or.inr (Or.inr ⟨hv.resolve_left q, ?_, rfl⟩)
      have : c ≠ 6 := fun e => q2 (by rw [e]; rfl)
      omega
    · exact Or.inr (Or.inl ⟨hv.resolve_left q, (nI_eq (a := c) (b := 6) (by omega) (by omega)).mp q2, rfl⟩)
  have T : ∀ {x lo hi : Int32} {p q : Int32 → jS → Prop}, wp_Mo_isIn sm x lo hi p → (∀ r s, p r s → q r s) → wp_Mo_isIn sm x lo hi q := by
    intro x lo hi p q h w
    exact ⟨fun z => w _ _ (h.1 z), fun z => ⟨fun z2 => w _ _ ((h.2 z).1 z2), fun z2 => w _ _ ((h.2 z).2 z2)⟩⟩
  refine T h ?_
  rintro r7 s ⟨rfl, q1, q2⟩
  refine ⟨fun s' v' => s' = s ∧ v' = v, J, fun z => ⟨rfl, (q1 z).symm⟩, fun z => T (q2 z) ?_⟩
  rintro r10 s' ⟨rfl, q3, q4⟩
  refine ⟨fun z => ⟨rfl, (q3 z).symm⟩, fun z => mk_1 hK9 hk9 (by omega) ⟨fun z2 => absurd z2 (by decide), fun _ => ⟨fun z2 => ⟨rfl, ?_⟩, fun z2 => ?_⟩⟩⟩
  · have : c = 0 := (nI_eq (a := c) (b := 0) (by omega) (by omega)).mp z2
    exact ((q4 z).1 this).symm
  · have c0 : 0 < c := by
      rcases Nat.eq_zero_or_pos c with e | e
      · exact absurd (by rw [e]; rfl) z2
      · exact e
    obtain ⟨d, rfl⟩ : ∃ d, c = d + 1 := ⟨c - 1, by omega⟩
    rw [mul6, ← Nat.add_assoc, nI_pred, nI_clamp (by omega)]
    exact ⟨vp_in_nI (by omega) (by omega), fun z3 => ⟨rfl, (((q4 z).2 c0).1 z3).symm⟩, fun z3 => ⟨rfl, (((q4 z).2 c0).2 z3).symm⟩⟩
theorem p_20 (K F : Nat) : lOwe wc_20 K F (Rl K F) := by
  intro st f sm a1 a2 a3 a4 hR
  obtain ⟨n, b, h, num, wid, ord, tau, gx, gy, gr, lr, ll, ls, hv, hk, hm⟩ := id hR
  obtain ⟨v0, v1, v2, v3, v4, v5, v6, v7, v8, v9, v10, v11⟩ := id hv
  have hK9 : sm 0 1 = nI K := hm.1.1
  unfold wc_20 wp_Lw_law wp_KT_law
  rcases ix_cases a1 (n := K) (by omega) with hx | ⟨k, hk9, rfl⟩
  · refine nx_bad hk.1.1 hx (Or.inl ⟨rfl, ?_⟩)
    show wp_Mo_law sm a1 a2 a3 _
    unfold wp_Mo_law
    refine mk_0 hK9 (by omega) hx ⟨fun v => v = 0, ?_, fun _ => rfl, fun q => absurd rfl q⟩
    rintro v rfl
    have J : ∀ (r : Int32), ∃ j8 : jS → Prop, True := fun _ => ⟨fun _ => True, trivial⟩
    have key : ∀ (P : Int32 → Prop) (Q : jS → Prop), P 1 → Q sm → P 1 ∧ Q sm := fun _ _ a b => ⟨a, b⟩
    have Z : ∀ {x : Int32} {post : Int32 → jS → Prop}, post 0 sm → wp_Mo_isKind sm a1 post := fun q => mk_0 hK9 (by omega) hx q
    refine mi_a ⟨fun s _ => s = sm, ?_, fun _ => rfl, fun q => absurd rfl q⟩ ⟨fun s _ => s = sm, ?_, fun q => rfl, fun _ => mi_a ⟨fun _ => rfl, fun q => absurd rfl q⟩ ⟨fun _ => rfl, fun _ => mk_0 hK9 (by omega) hx ⟨fun _ => rfl, fun q => absurd rfl q⟩⟩⟩
    · rintro s v rfl
      refine mk_0 hK9 (by omega) hx ⟨fun w => w = 1, ?_, fun q => absurd rfl q, fun _ => rfl⟩
      rintro w rfl
      exact th_p (by decide) (fin_x (by decide) hR)
    · rintro s v rfl
      refine mk_0 hK9 (by omega) hx ⟨fun w => w = 1, ?_, fun q => absurd rfl q, fun _ => rfl⟩
      rintro w rfl
      exact th_p (by decide) (fin_x (by decide) hR)
  · obtain ⟨c6, c1, cb, cs⟩ := v11 k
    have hkc := (hk.2.2.2.2.2.2.2.2.2.2 k hk9).1
    have hmc := (hm.2.2.2.2.2.2.2.2 k hk9).1
    refine nx_ok hk.1.1 hk9 (by omega) ?_
    rcases rg1_cases a2 (M := 1000) (n := 1000) (by decide) with hx | ⟨l, hl1, hl, rfl, h1, h2⟩
    · refine nw_bad hx (Or.inr (Or.inl ⟨rfl, ?_⟩))
      exact ml_law 0 hK9 (by omega) hk9 hmc c6 (mi_0 hx ⟨rfl, fun _ => rfl, fun q => absurd rfl q⟩) (Or.inl rfl) (fun _ => fin_x (by decide) hR) (fun q => absurd q (by decide)) (fun q => absurd q (by decide))
    · refine nw_ok h1 h2 ?_
      rcases rg_cases a3 (M := 2000) (n := 2000) (by decide) with hx | ⟨s, hs, rfl, h3, h4⟩
      · refine nw_bad hx (Or.inr (Or.inl ⟨rfl, ?_⟩))
        exact ml_law 0 hK9 (by omega) hk9 hmc c6 (mi_1 h1 h2 ⟨rfl, fun q => rfl, fun _ => mi_0 hx ⟨rfl, fun _ => rfl, fun q => absurd rfl q⟩⟩) (Or.inl rfl) (fun _ => fin_x (by decide) hR) (fun q => absurd q (by decide)) (fun q => absurd q (by decide))
      · refine nw_ok h3 h4 ⟨vp_in_nI hk9 (by omega), ?_⟩
        rw [nI_clamp (by omega)]
        unfold wp_La_lastLength
        rw [hkc]
        have GO : ∀ (lst : Nat), (lst ≤ 1000) → (lst < l → (lr k = 0 ∨ (0 < lr k ∧ lst = ll k (lr k - 1)))) → (¬ lst < l → 0 < lr k ∧ lst = ll k (lr k - 1)) →
            ((nI lst < nI l → ((nI (lr k) < (6 : Int32) → wp_La_add K F k st (nI l) (nI s) (fun r11 st10 => wp_Mo_law sm (nI k) (nI l) (nI s) (fun r3 u4 => wp_Mo_thrown u4 (fun r5 u6 => r5 = 0 ∧ ((0 : Int32) = 0 → ((vp_updL f (Int32.toNatClampNeg 0) r11.toInt64) (Int32.toNatClampNeg 0)) = r3.toInt64) ∧ Rl K F st10 u6)))) ∧ (¬ nI (lr k) < (6 : Int32) → wp_Mo_law sm (nI k) (nI l) (nI s) (fun r3 u4 => wp_Mo_thrown u4 (fun r5 u6 => r5 = 3 ∧ ((3 : Int32) = 0 → (f (Int32.toNatClampNeg 0)) = r3.toInt64) ∧ Rl K F st u6))))) ∧ (¬ nI lst < nI l → wp_Mo_law sm (nI k) (nI l) (nI s) (fun r3 u4 => wp_Mo_thrown u4 (fun r5 u6 => r5 = 2 ∧ ((2 : Int32) = 0 → (f (Int32.toNatClampNeg 0)) = r3.toInt64) ∧ Rl K F st u6)))) := by
          intro lst hlb g1 g2
          have mlast : 0 < lr k → sm 9 (6 * k + (lr k - 1)) = nI (ll k (lr k - 1)) := fun q => ((hm.2.2.2.2.2.2.2.2 k hk9).2 (lr k - 1) (by omega)).1
          have hin : lst < l → wp_Mo_isIn sm (nI l) 1 1000 (fun r7 st6 => st6 = sm ∧ ((r7 = 0 → (1 : Int32) = 0) ∧ (¬ r7 = 0 → wp_Mo_isIn st6 (nI s) 0 2000 (fun r10 st9 => st9 = sm ∧ ((r10 = 0 → (1 : Int32) = 0) ∧ (¬ r10 = 0 → (lr k = 0 → (1 : Int32) = 1) ∧ (0 < lr k → (nI l ≤ sm 9 (6 * k + (lr k - 1)) → (1 : Int32) = 0) ∧ (¬ nI l ≤ sm 9 (6 * k + (lr k - 1)) → (1 : Int32) = 1)))))))) := by
            intro q
            refine mi_1 h1 h2 ⟨rfl, fun q => absurd q (by decide), fun _ => mi_1 h3 h4 ⟨rfl, fun q => absurd q (by decide), fun _ => ⟨fun _ => rfl, fun q0 => ⟨fun q2 => ?_, fun _ => rfl⟩⟩⟩⟩
            rw [mlast q0, nI_leI (by omega) (by have := (cb (lr k - 1)).1; omega)] at q2
            have := (g1 q).resolve_left (by omega)
            omega
          refine ⟨fun q => ⟨fun q6 => ?_, fun q6 => ?_⟩, fun q => ?_⟩
          · have ql : lst < l := (nI_ltI (by omega) (by omega)).mp q
            have c6' : lr k < 6 := (nI_ltI (a := lr k) (b := 6) (by omega) (by omega)).mp q6
            unfold wp_La_add
            have e1 : jq st (52 + 3 * k) (lr k) (nI l) (51 + 3 * k) 2 = nI (lr k) := (jq_o (by omega)).trans hkc
            have e2 : jq (jq st (52 + 3 * k) (lr k) (nI l)) (53 + 3 * k) (lr k) (nI s) (51 + 3 * k) 2 = nI (lr k) := (jq_o (by omega)).trans e1
            rw [hkc, nI_clamp (by omega), e1, nI_clamp (by omega), e2, nI_1, jq_s]
            refine ⟨vp_in_nI c6' (by omega), vp_in_nI c6' (by omega), ?_⟩
            refine ml_law 1 hK9 (by omega) hk9 hmc c6 (hin ql) (Or.inr rfl) (fun q => absurd q (by decide)) (fun _ q => absurd q (by omega)) (fun _ _ => ?_)
            refine fin_v (f := f) ⟨n, b, h, num, wid, ord, tau, gx, gy, gr, _, _, _, ⟨v0, v1, v2, v3, v4, v5, v6, v7, v8, v9, v10, ?_⟩, kD_law (l := l) (s := s) hk9 rfl hk, mD_law hk9 (by omega) rfl c6' (mD_thr 0 hm)⟩ (by rw [jq_o (by omega), jq_o (by omega), jq_o (by omega), jq_s])
            intro a
            obtain ⟨w6, w1, wb, ws⟩ := v11 a
            show (if a = k then lr k + 1 else lr a) ≤ 6 ∧ (∀ r, r < (if a = k then lr k + 1 else lr a) → 1 ≤ (if a = k ∧ r = lr k then l else ll a r)) ∧ (∀ r, (if a = k ∧ r = lr k then l else ll a r) ≤ 1000 ∧ (if a = k ∧ r = lr k then s else ls a r) ≤ 2000) ∧ (∀ r, r + 1 < (if a = k then lr k + 1 else lr a) → (if a = k ∧ r = lr k then l else ll a r) < (if a = k ∧ r + 1 = lr k then l else ll a (r + 1)))
            by_cases qa : a = k
            · subst qa
              rw [if_pos rfl]
              refine ⟨by omega, fun r hr => ?_, fun r => ⟨?_, ?_⟩, fun r hr => ?_⟩
              · by_cases qr : r = lr a
                · rw [if_pos ⟨rfl, qr⟩]; exact hl1
                · rw [if_neg (fun z => qr z.2)]; exact w1 r (by omega)
              · by_cases qr : r = lr a
                · rw [if_pos ⟨rfl, qr⟩]; exact hl
                · rw [if_neg (fun z => qr z.2)]; exact (wb r).1
              · by_cases qr : r = lr a
                · rw [if_pos ⟨rfl, qr⟩]; exact hs
                · rw [if_neg (fun z => qr z.2)]; exact (wb r).2
              · rw [if_neg (fun z => by have := z.2; omega)]
                by_cases qr : r + 1 = lr a
                · rw [if_pos ⟨rfl, qr⟩]
                  have := ((g1 ql).resolve_left (by omega)).2
                  rw [← qr, Nat.add_sub_cancel] at this
                  omega
                · rw [if_neg (fun z => qr z.2)]; exact ws r (by omega)
            · rw [if_neg qa]
              refine ⟨w6, fun r hr => ?_, fun r => ⟨?_, ?_⟩, fun r hr => ?_⟩
              · rw [if_neg (fun z => qa z.1)]; exact w1 r hr
              · rw [if_neg (fun z => qa z.1)]; exact (wb r).1
              · rw [if_neg (fun z => qa z.1)]; exact (wb r).2
              · rw [if_neg (fun z => qa z.1), if_neg (fun z => qa z.1)]; exact ws r hr
          · have ql : lst < l := (nI_ltI (by omega) (by omega)).mp q
            have c6' : lr k = 6 := by
              have := mt (nI_ltI (a := lr k) (b := 6) (by omega) (by omega)).mpr q6
              omega
            exact ml_law 1 hK9 (by omega) hk9 hmc c6 (hin ql) (Or.inr rfl) (fun q => absurd q (by decide)) (fun _ _ => fin_x (by decide) hR) (fun _ q => absurd q (by omega))
          · have ql : ¬ lst < l := mt (nI_ltI (by omega) (by omega)).mpr q
            have g := g2 ql
            refine ml_law 0 hK9 (by omega) hk9 hmc c6 (mi_1 h1 h2 ⟨rfl, fun _ => rfl, fun _ => mi_1 h3 h4 ⟨rfl, fun _ => rfl, fun _ => ⟨fun q0 => absurd g.1 (by omega), fun q0 => ⟨fun _ => rfl, fun q2 => ?_⟩⟩⟩⟩) (Or.inl rfl) (fun _ => fin_x (by decide) hR) (fun q => absurd q (by decide)) (fun q => absurd q (by decide))
            rw [mlast q0, nI_leI (by omega) (by have := (cb (lr k - 1)).1; omega)] at q2
            omega
        refine ⟨fun q => ?_, fun q => ?_⟩
        · have c0 : 1 ≤ lr k := (nI_leI (a := 1) (b := lr k) (by omega) (by omega)).mp q
          obtain ⟨d, hd⟩ : ∃ d, lr k = d + 1 := ⟨lr k - 1, by omega⟩
          have kl := ((hk.2.2.2.2.2.2.2.2.2.2 k hk9).2 d (by omega)).1
          rw [hd, nI_pred, nI_clamp (by omega), kl]
          have g := GO (ll k d) (cb d).1 (fun _ => Or.inr ⟨c0, by rw [hd, Nat.add_sub_cancel]⟩) (fun _ => ⟨c0, by rw [hd, Nat.add_sub_cancel]⟩)
          exact ⟨vp_in_nI (by omega) (by omega), fun q => ⟨fun q6 => (g.1 q).1 (hkc ▸ q6), fun q6 => Or.inr (Or.inr ⟨rfl, (g.1 q).2 (fun z => q6 (hkc.symm ▸ z))⟩)⟩, fun q => Or.inr (Or.inl ⟨rfl, g.2 q⟩)⟩
        · have c0 : lr k = 0 := by
            have := mt (nI_leI (a := 1) (b := lr k) (by omega) (by omega)).mpr q
            omega
          have g := GO 0 (by omega) (fun _ => Or.inl c0) (fun q => absurd (by omega) q)
          exact ⟨fun q => ⟨fun q6 => (g.1 q).1 (hkc ▸ q6), fun q6 => Or.inr (Or.inr ⟨rfl, (g.1 q).2 (fun z => q6 (hkc.symm ▸ z))⟩)⟩, fun q => Or.inr (Or.inl ⟨rfl, g.2 q⟩)⟩
