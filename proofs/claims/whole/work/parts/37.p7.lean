/-! ===== distance ===== -/
/-- the squares of the first i differences, summed -/
def sq (num : Nat → Nat → Nat) (d e : Nat) : Nat → Int32
  | 0 => 0
  | i + 1 => sq num d e i + (nI (num d i) - nI (num e i)) * (nI (num d i) - nI (num e i))
section SQ
variable {K F n b h : Nat} {num : Nat → Nat → Nat} {wid ord : Nat → Nat} {tau gx gy : Nat → Int32} {gr : Nat → Nat → Nat} {lr : Nat → Nat} {ll ls : Nat → Nat → Nat} {st sm : jS}
theorem kx_sq {d e : Nat} {post : Int32 → jS → Prop} (hv : vD K F n b h num wid ord tau gx gy gr lr ll ls) (hk : kD K F n b h num wid ord tau gx gy gr lr ll ls st) (hd : d < 24) (he : e < 24) (hp : post (sq num d e F) st) : wp_Ex_squares K F st (nI d) (nI e) post := by
  have hF := hv.2.1.2
  have h10 : st 1 0 = nI F := hk.2.1.1
  have L : ∀ m i, i + m = F → wp_Ex_squares_5 K F post (m + 1) st (nI d) (nI e) (sq num d e i) (nI i) := by
    intro m
    induction m with
    | zero =>
      intro i hi
      have e : i = F := by omega
      subst e
      exact ⟨fun _ => hp, fun q => absurd (by rw [h10]; exact Int32.le_refl _) q⟩
    | succ m ih =>
      intro i hi
      refine ⟨fun q => absurd q (by rw [h10]; exact nI_ge (by omega) (by omega)), fun _ => ⟨vp_in_nI (by omega) (by omega), vp_in_nI (by omega) (by omega), vp_in_nI (by omega) (by omega), vp_in_nI (by omega) (by omega), ?_⟩⟩
      unfold wp_KT_square
      rw [nI_clamp (show i < 2 ^ 31 by omega), nI_clamp (show d < 2 ^ 31 by omega), nI_clamp (show e < 2 ^ 31 by omega), hk.2.2.2.2.2.2.1 d i hd (by omega), hk.2.2.2.2.2.2.1 e i he (by omega), nI_1]
      exact ih (i + 1) (by omega)
  exact ⟨F + 1, L F 0 (by omega)⟩
theorem mx_sq {d e : Nat} {post : Int32 → jS → Prop} (hv : vD K F n b h num wid ord tau gx gy gr lr ll ls) (hm : mD K F n b h num wid ord tau gx gy gr lr ll ls sm) (hd : d < 24) (he : e < 24) (hp : post (sq num d e F) sm) : wp_Mo_apart sm (nI d) (nI e) post := by
  have hF := hv.2.1.2
  have h02 : sm 0 2 = nI F := hm.1.2
  have L : ∀ m i, i + m = F → wp_Mo_apart_5 post (m + 1) sm (nI d) (nI e) (sq num d e i) (nI i) := by
    intro m
    induction m with
    | zero =>
      intro i hi
      have e : i = F := by omega
      subst e
      exact ⟨fun _ => hp, fun q => absurd (by rw [h02]; exact Int32.le_refl _) q⟩
    | succ m ih =>
      intro i hi
      refine ⟨fun q => absurd q (by rw [h02]; exact nI_ge (by omega) (by omega)), fun _ => ?_⟩
      rw [mul11, mul11, nI_clamp (show 11 * d + i < 2 ^ 31 by omega), nI_clamp (show 11 * e + i < 2 ^ 31 by omega), hm.2.2.2.2.1 d i hd (by omega), hm.2.2.2.2.1 e i he (by omega), nI_1]
      exact ⟨vp_in_nI (by omega) (by omega), vp_in_nI (by omega) (by omega), ih (i + 1) (by omega)⟩
  exact ⟨F + 1, L F 0 (by omega)⟩
end SQ
theorem p_16 (K F : Nat) : lOwe wc_16 K F (Rl K F) := by
  intro st f sm a1 a2 a3 a4 hR
  obtain ⟨n, b, h, num, wid, ord, tau, gx, gy, gr, lr, ll, ls, hv, hk, hm⟩ := id hR
  obtain ⟨v0, v1, v2, v3, v4, v5, v6, v7, v8, v9, v10, v11⟩ := id hv
  have hn : sm 0 4 = nI n := hm.2.1.1
  unfold wc_16 wp_Lw_distance wp_KT_distance
  rcases ix_cases a1 (n := n) (by omega) with hx | ⟨d, hd, rfl⟩
  · refine nx_bad hk.2.1.2 hx ⟨rfl, ?_⟩
    show wp_Mo_distance sm a1 a2 _
    unfold wp_Mo_distance
    refine me_0 hn (by omega) hx ⟨fun s v => s = sm ∧ v = 1, ?_, fun _ => ⟨rfl, rfl⟩, fun q => absurd rfl q⟩
    rintro s v ⟨rfl, rfl⟩
    exact th_p (by decide) (fin_x (by decide) hR)
  · refine nx_ok hk.2.1.2 hd (by omega) ?_
    rcases ix_cases a2 (n := n) (by omega) with hx | ⟨e, he, rfl⟩
    · refine nx_bad hk.2.1.2 hx ⟨rfl, ?_⟩
      show wp_Mo_distance sm (nI d) a2 _
      unfold wp_Mo_distance
      refine me_1 hn hd (by omega) ⟨fun s v => s = sm ∧ v = 1, ?_, fun q => absurd q (by decide), fun _ => me_0 hn (by omega) hx ⟨fun q => absurd rfl q, fun _ => ⟨rfl, rfl⟩⟩⟩
      rintro s v ⟨rfl, rfl⟩
      exact th_p (by decide) (fin_x (by decide) hR)
    · refine nx_ok hk.2.1.2 he (by omega) (kx_sq hv hk (by omega) (by omega) ?_)
      show wp_Mo_distance sm (nI d) (nI e) _
      unfold wp_Mo_distance
      refine me_1 hn hd (by omega) ⟨fun s v => s = sm ∧ v = 0, ?_, fun q => absurd q (by decide), fun _ => me_1 hn he (by omega) ⟨fun _ => ⟨rfl, rfl⟩, fun q => absurd q (by decide)⟩⟩
      rintro s v ⟨rfl, rfl⟩
      exact th_0 (mx_sq hv (mD_thr 0 hm) (by omega) (by omega) (fin_v (f := f) (Rl_thr 0 hR) jq_s))
