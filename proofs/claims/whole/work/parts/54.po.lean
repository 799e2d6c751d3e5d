theorem p_14 (K F : Nat) : lOwe wc_14 K F (Rl K F) := by
  intro st f sm a1 a2 a3 a4 hR
  obtain ⟨n, b, h, num, wid, ord, tau, gx, gy, gr, lr, ll, ls, hv, hk, hm⟩ := id hR
  obtain ⟨v0, v1, v2, v3, v4, v5, v6, v7, v8, v9, v10, v11⟩ := id hv
  have hm0 := mD_thr 0 hm
  unfold wc_14 wp_Lw_groups wp_KT_groups
  rw [hk.1.2]
  rcases rg_cases a1 (M := nI F) (n := F) (nI_toInt (by omega)) with hx | ⟨T, hT, rfl, h1, h2⟩
  · refine nw_bad hx ⟨rfl, ?_⟩
    show wp_Mo_groups sm a1 _
    unfold wp_Mo_groups
    rw [hm.1.2]
    refine mi_0 hx ⟨fun v => v = 1, ?_, fun q => absurd rfl q, fun _ => rfl⟩
    rintro v rfl
    exact th_p (by decide) (fin_x (by decide) hR)
  · refine nw_ok h1 h2 (kx_groups hv hk hT fun st' g hs hg => ?_)
    show wp_Mo_groups sm (nI T) _
    unfold wp_Mo_groups
    rw [hm.1.2]
    refine mi_1 h1 h2 ⟨fun v => v = 0, ?_, fun _ => rfl, fun q => absurd q (by decide)⟩
    rintro v rfl
    refine th_0 (mx_groups hv hm0 hT fun sm' g2 ms mg => ?_)
    have e : cn (fst9 g) n = cn (fst9 g2) n := by
      refine fst_same (A := alk num wid F T) (B := alk num wid F T) hg.1 (fun a c ha hc hA => ?_) mg.1 (fun a c ha hc hA => ?_)
      · rcases Nat.lt_trichotomy a c with q | q | q
        · exact hg.2 a c q hc (Or.inl ha) hA
        · rw [q]
        · refine (hg.2 c a q ha (Or.inl hc) ?_).symm
          unfold alk at hA ⊢
          rw [sc_comm]; exact hA
      · refine (mg.2 c a hc ha ?_ hA).symm
        have : c * n + n ≤ n * n := by
          have := Nat.mul_le_mul_right n (show c + 1 ≤ n from hc)
          rw [Nat.add_mul, Nat.one_mul] at this
          exact this
        omega
    rw [e]
    have R2 : Rl K F st' sm' := ⟨n, b, h, num, wid, ord, tau, gx, gy, gr, lr, ll, ls, hv, kD_congr (fun a h8 _ _ => hs a h8) hk, mD_congr (fun y _ h11 => ms y h11) (fun j _ => by rw [ms 0 (by omega)]) hm0⟩
    exact fin_v (f := f) R2 (by rw [ms 0 (by omega)]; exact jq_s)
