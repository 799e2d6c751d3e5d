theorem fin_xl {K F : Nat} {st sm : jS} {f : Nat → Int64} {t : Int32} {r3 : Int64} (ht : ¬ t = 0) (h : Rl K F st sm) : wp_Mo_thrown (jq sm 0 0 t) (fun r5 u6 => r5 = t ∧ (t = 0 → f (Int32.toNatClampNeg 0) = r3) ∧ Rl K F st u6) :=
  ⟨jq_s, fun q => absurd q ht, Rl_thr t h⟩
theorem fin_vl {K F : Nat} {st sm : jS} {f : Nat → Int64} {r3 : Int64} (h : Rl K F st sm) (h0 : sm 0 0 = 0) : wp_Mo_thrown sm (fun r5 u6 => r5 = 0 ∧ ((0 : Int32) = 0 → (vp_updL f (Int32.toNatClampNeg 0) r3) (Int32.toNatClampNeg 0) = r3) ∧ Rl K F st u6) :=
  ⟨h0, fun _ => pk_uLs, h⟩
theorem p_19 (K F : Nat) : lOwe wc_19 K F (Rl K F) := by
  intro st f sm a1 a2 a3 a4 hR
  obtain ⟨n, b, h, num, wid, ord, tau, gx, gy, gr, lr, ll, ls, hv, hk, hm⟩ := id hR
  obtain ⟨v0, v1, v2, v3, v4, v5, v6, v7, v8, v9, v10, v11⟩ := id hv
  have hK9 : sm 0 1 = nI K := hm.1.1
  have hm0 := mD_thr 0 hm
  unfold wc_19 wp_Lw_share wp_KT_share
  rcases ix_cases a3 (n := K) (by omega) with hx | ⟨k, hk9, rfl⟩
  · refine nx_bad hk.1.1 hx (Or.inl ⟨rfl, ?_⟩)
    show wp_Mo_share sm a1 a2 a3 a4 _
    unfold wp_Mo_share
    refine mk_0 hK9 (by omega) hx ⟨fun s v => s = sm ∧ v = 1, ?_, fun _ => ⟨rfl, rfl⟩, fun q => absurd rfl q⟩
    rintro s v ⟨rfl, rfl⟩
    exact th_p (by decide) (fin_xl (by decide) hR)
  · refine nx_ok hk.1.1 hk9 (by omega) ?_
    rcases np_cases a4 with hw | hw
    · refine np_ok hw ?_
      unfold wp_KT_needPlace
      rcases pl_cases a1 with hx | ⟨x1, x2, x3, x4⟩
      · refine nw_bad hx (Or.inr ⟨rfl, ?_⟩)
        show wp_Mo_share sm a1 a2 (nI k) a4 _
        unfold wp_Mo_share
        refine mk_1 hK9 hk9 (by omega) ⟨fun s v => s = sm ∧ v = 2, ?_, fun q => absurd q (by decide), fun _ => mp_1 hw ⟨fun _ => mi_0 hx ⟨fun _ => ⟨rfl, rfl⟩, fun q => absurd rfl q⟩, fun q => absurd q (by decide)⟩⟩
        rintro s v ⟨rfl, rfl⟩
        exact th_p (by decide) (fin_xl (by decide) hR)
      · refine nw_ok x1 x2 ?_
        rcases pl_cases a2 with hy | ⟨y1, y2, y3, y4⟩
        · refine nw_bad hy (Or.inr ⟨rfl, ?_⟩)
          show wp_Mo_share sm a1 a2 (nI k) a4 _
          unfold wp_Mo_share
          refine mk_1 hK9 hk9 (by omega) ⟨fun s v => s = sm ∧ v = 2, ?_, fun q => absurd q (by decide), fun _ => mp_1 hw ⟨fun _ => mi_1 x1 x2 ⟨fun q => absurd q (by decide), fun _ => mi_0 hy ⟨fun q => absurd rfl q, fun _ => ⟨rfl, rfl⟩⟩⟩, fun q => absurd q (by decide)⟩⟩
          rintro s v ⟨rfl, rfl⟩
          exact th_p (by decide) (fin_xl (by decide) hR)
        · refine nw_ok y1 y2 ?_
          have hx := And.intro x3 x4
          have hy := And.intro y3 y4
          have ff : ∀ {v : Int64}, wp_Mo_thrown (jq sm 0 0 0) (fun r5 u6 => r5 = 0 ∧ ((0 : Int32) = 0 → (vp_updL f (Int32.toNatClampNeg 0) v) (Int32.toNatClampNeg 0) = v) ∧ Rl K F st u6) := fin_vl (Rl_thr 0 hR) jq_s
          have enter : ∀ {post : Int64 → jS → Prop}, wp_Mo_nearHaul (jq sm 0 0 0) a1 a2 (-1 : Int32) (fun r13 st12 => (∃ j14 : jS → Int32 → Prop, (∀ (st17 : jS) (v18 : Int32), j14 st17 v18 → ((¬ r13 = (-1 : Int32) → ((¬ v18 = (-1 : Int32) → wp_Mo_square st17 r13 a1 a2 (fun r20 st19 => wp_Mo_square st19 v18 a1 a2 (fun r22 st21 => vp_in (((6 : Int32) * r13) + (nI k)) 72 ∧ wp_Mo_all st21 v18 (fun r25 st24 => vp_in (((6 : Int32) * v18) + (nI k)) 72 ∧ wp_Mo_all st24 r13 (fun r28 st27 => wp_Mo_all st27 r13 (fun r30 st29 => wp_Mo_all st29 v18 (fun r32 st31 => wp_Mo_part st31 ((((Int32.toInt64 (st21 7 (Int32.toNatClampNeg (((6 : Int32) * r13) + (nI k))))) * (r22 + (1 : Int64))) * r25) + (((Int32.toInt64 (st24 7 (Int32.toNatClampNeg (((6 : Int32) * v18) + (nI k))))) * (r20 + (1 : Int64))) * r28)) ((r30 * r32) * ((r20 + (1 : Int64)) + (r22 + (1 : Int64)))) a4 (fun r34 st33 => post r34 st33)))))))) ∧ (v18 = (-1 : Int32) → vp_in (((6 : Int32) * r13) + (nI k)) 72 ∧ wp_Mo_all st17 r13 (fun r37 st36 => wp_Mo_part st36 (Int32.toInt64 (st17 7 (Int32.toNatClampNeg (((6 : Int32) * r13) + (nI k))))) r37 a4 (fun r39 st38 => post r39 st38))))) ∧ (r13 = (-1 : Int32) → post (Int32.toInt64 a4) st17))) ∧ ((¬ r13 = (-1 : Int32) → wp_Mo_nearHaul st12 a1 a2 r13 (fun r16 st15 => j14 st15 r16)) ∧ (r13 = (-1 : Int32) → j14 st12 (-1 : Int32))))) → wp_Mo_share sm a1 a2 (nI k) a4 post := by
            intro post hh
            unfold wp_Mo_share
            refine mk_1 hK9 hk9 (by omega) ⟨fun s v => s = sm ∧ v = 0, ?_, fun q => absurd q (by decide), fun _ => mp_1 hw ⟨fun _ => mi_1 x1 x2 ⟨fun q => absurd q (by decide), fun _ => mi_1 y1 y2 ⟨fun _ => ⟨rfl, rfl⟩, fun q => absurd q (by decide)⟩⟩, fun q => absurd q (by decide)⟩⟩
            rintro s v ⟨rfl, rfl⟩
            exact th_0 hh
          unfold wp_Ha_sharePart
          refine kx_nf hv hk hx hy fun r2 w2 => ⟨fun q2 => kx_nf hv hk hx hy fun r4 w4 => ⟨fun q4 => ?_, fun q4 => ?_⟩, fun q2 => ?_⟩
          · obtain ⟨a, _, ha, rfl, oa, _⟩ := id (w2.resolve_left (fun z => q2 z.1))
            obtain ⟨c, _, hc, rfl, oc, _⟩ := id (w4.resolve_left (fun z => q4 z.1))
            have qa := qd_le hv hx hy a
            have qc := qd_le hv hx hy c
            have ga := ag_le hv a K
            have gc := ag_le hv c K
            have ra := v10 a k
            have rc := v10 c k
            have B1 : gr a k * ag gr c K * (qd gx gy a1 a2 c + 1) ≤ 1000 * 6000 * 80001 := Nat.mul_le_mul (Nat.mul_le_mul ra (by omega)) (by omega)
            have B2 : gr c k * ag gr a K * (qd gx gy a1 a2 a + 1) ≤ 1000 * 6000 * 80001 := Nat.mul_le_mul (Nat.mul_le_mul rc (by omega)) (by omega)
            have B3 : ag gr a K * ag gr c K * (qd gx gy a1 a2 c + 1 + (qd gx gy a1 a2 a + 1)) ≤ 6000 * 6000 * 160002 := Nat.mul_le_mul (Nat.mul_le_mul (by omega) (by omega)) (by omega)
            refine kx_qd hv hk hx hy (by omega) (kx_qd hv hk hx hy (by omega) (kx_ag hv hk (by omega) (kx_ag hv hk (by omega) ⟨vp_in_nI (by omega) (by omega), vp_in_nI hk9 (by omega), vp_in_nI (by omega) (by omega), vp_in_nI hk9 (by omega), ?_⟩)))
            rw [nI_clamp (show a < 2 ^ 31 by omega), nI_clamp (show c < 2 ^ 31 by omega), nI_clamp (show k < 2 ^ 31 by omega), hk.2.2.2.2.2.2.2.2.2.1 a k (by omega) hk9, hk.2.2.2.2.2.2.2.2.2.1 c k (by omega) hk9, nI_1, nI_1, nI_l (by omega), nI_l (by omega), nI_l (by omega), nI_l (by omega), nI_l (by omega), nI_l (by omega), lN_mul, lN_mul, lN_mul, lN_mul, lN_mul, lN_add, lN_add, lN_mul]
            refine kx_part (by omega) (by omega) hw ?_
            show wp_Mo_share sm a1 a2 (nI k) a4 _
            refine enter (mx_nf hv hm0 hx hy fun r13 w13 => ?_)
            have e13 := nst_eq w13 w2
            subst e13
            refine ⟨fun s v => s = jq sm 0 0 0 ∧ v = nI c, ?_, fun _ => mx_nf hv hm0 hx hy fun r16 w16 => ⟨rfl, nst_eq w16 w4⟩, fun q => absurd q q2⟩
            rintro s v ⟨rfl, rfl⟩
            refine ⟨fun _ => ⟨fun _ => mx_qd hv hm0 hx hy (by omega) (mx_qd hv hm0 hx hy (by omega) ?_), fun q => absurd q q4⟩, fun q => absurd q q2⟩
            rw [mul6, mul6]
            refine ⟨vp_in_nI (by omega) (by omega), mx_ag hv hm0 (by omega) ⟨vp_in_nI (by omega) (by omega), mx_ag hv hm0 (by omega) (mx_ag hv hm0 (by omega) (mx_ag hv hm0 (by omega) ?_))⟩⟩
            rw [nI_clamp (show 6 * a + k < 2 ^ 31 by omega), nI_clamp (show 6 * c + k < 2 ^ 31 by omega), hm0.2.2.2.2.2.2.2.1 a k (by omega) hk9, hm0.2.2.2.2.2.2.2.1 c k (by omega) hk9, nI_l (by omega), nI_l (by omega), lN_1, lN_1, lN_mul, lN_mul, lN_mul, lN_mul, lN_mul, lN_add, lN_add, lN_mul, Nat.mul_right_comm (gr a k), Nat.mul_right_comm (gr c k), Nat.add_comm (qd gx gy a1 a2 a + 1)]
            exact mx_part (by omega) (by omega) ff
          · obtain ⟨a, _, ha, rfl, oa, _⟩ := id (w2.resolve_left (fun z => q2 z.1))
            subst q4
            have ga := ag_le hv a K
            have ra := v10 a k
            refine ⟨vp_in_nI (by omega) (by omega), vp_in_nI hk9 (by omega), kx_ag hv hk (by omega) ?_⟩
            rw [nI_clamp (show a < 2 ^ 31 by omega), nI_clamp (show k < 2 ^ 31 by omega), hk.2.2.2.2.2.2.2.2.2.1 a k (by omega) hk9, nI_l (by omega), nI_l (by omega)]
            refine kx_part (by omega) (by omega) hw ?_
            show wp_Mo_share sm a1 a2 (nI k) a4 _
            refine enter (mx_nf hv hm0 hx hy fun r13 w13 => ?_)
            have e13 := nst_eq w13 w2
            subst e13
            refine ⟨fun s v => s = jq sm 0 0 0 ∧ v = -1, ?_, fun _ => mx_nf hv hm0 hx hy fun r16 w16 => ⟨rfl, nst_eq w16 w4⟩, fun q => absurd q q2⟩
            rintro s v ⟨rfl, rfl⟩
            refine ⟨fun _ => ⟨fun q => absurd rfl q, fun _ => ?_⟩, fun q => absurd q q2⟩
            rw [mul6]
            refine ⟨vp_in_nI (by omega) (by omega), mx_ag hv hm0 (by omega) ?_⟩
            rw [nI_clamp (show 6 * a + k < 2 ^ 31 by omega), hm0.2.2.2.2.2.2.2.1 a k (by omega) hk9, nI_l (by omega)]
            exact mx_part (by omega) (by omega) ff
          · subst q2
            refine kx_part (a := 0) (c := 0) (by omega) (by omega) hw ?_
            show wp_Mo_share sm a1 a2 (nI k) a4 _
            refine enter (mx_nf hv hm0 hx hy fun r13 w13 => ?_)
            have e13 := nst_eq w13 w2
            subst e13
            refine ⟨fun s v => s = jq sm 0 0 0, ?_, fun q => absurd rfl q, fun _ => rfl⟩
            rintro s v rfl
            exact ⟨fun q => absurd rfl q, fun _ => ff⟩
    · refine np_bad hw (Or.inl ⟨rfl, ?_⟩)
      show wp_Mo_share sm a1 a2 (nI k) a4 _
      unfold wp_Mo_share
      refine mk_1 hK9 hk9 (by omega) ⟨fun s v => s = sm ∧ v = 1, ?_, fun q => absurd q (by decide), fun _ => mp_0 hw ⟨fun q => absurd rfl q, fun _ => ⟨rfl, rfl⟩⟩⟩
      rintro s v ⟨rfl, rfl⟩
      exact th_p (by decide) (fin_xl (by decide) hR)
