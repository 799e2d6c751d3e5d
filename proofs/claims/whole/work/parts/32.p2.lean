/-! ===== one thing more, on both sides ===== -/
section UP
variable {K F n b h : Nat} {num : Nat → Nat → Nat} {wid ord : Nat → Nat} {tau gx gy : Nat → Int32} {gr : Nat → Nat → Nat} {lr : Nat → Nat} {ll ls : Nat → Nat → Nat} {st sm : jS}
theorem kD_tau {e : Nat} (x : Int32) (he : e < 24) (hk : kD K F n b h num wid ord tau gx gy gr lr ll ls st) : kD K F n b h num wid ord (upd tau e x) gx gy gr lr ll ls (jq st 6 e x) := by
  obtain ⟨k0, k1, k2, k3, k4, k5, k6, k7, k8, k9, k10⟩ := hk
  refine ⟨k0, k1, k2, k3, ?_, k5, ?_, k7, k8, ?_, ?_⟩
  · intro i hi
    rw [jq_r]
    unfold upd
    by_cases q : i = e
    · rw [if_pos ⟨rfl, q⟩, if_pos q]
    · rw [if_neg (fun z => q z.2), if_neg q]; exact k4 i hi
  · intro e2 f he hf; rw [jq_o (by omega)]; exact k6 e2 f he hf
  · intro i k hi hk; rw [jq_o (by omega)]; exact k9 i k hi hk
  · intro k hk
    rw [jq_o (by omega)]
    exact ⟨(k10 k hk).1, fun r hr => by rw [jq_o (by omega), jq_o (by omega)]; exact (k10 k hk).2 r hr⟩
theorem mD_tau {e : Nat} (x : Int32) (hm : mD K F n b h num wid ord tau gx gy gr lr ll ls sm) : mD K F n b h num wid ord (upd tau e x) gx gy gr lr ll ls (jq sm 2 e x) := by
  obtain ⟨m0, m1, m2, m3, m4, m5, m6, m7, m8⟩ := hm
  refine ⟨m0, m1, ?_, m3, m4, m5, m6, m7, m8⟩
  intro i hi
  rw [jq_r]
  unfold upd
  by_cases q : i = e
  · rw [if_pos ⟨rfl, q⟩, if_pos q]
  · rw [if_neg (fun z => q z.2), if_neg q]; exact m2 i hi
theorem kD_wid {f w : Nat} (hf : f < F) (hk : kD K F n b h num wid ord tau gx gy gr lr ll ls st) : kD K F n b h num (fun g => if g = f then w else wid g) ord tau gx gy gr lr ll ls (jq st 7 f (nI w)) := by
  obtain ⟨k0, k1, k2, k3, k4, k5, k6, k7, k8, k9, k10⟩ := hk
  refine ⟨k0, k1, k2, k3, k4, ?_, ?_, k7, k8, ?_, ?_⟩
  · intro i hi
    show jq _ _ _ _ _ _ = nI (if i = f then w else wid i)
    rw [jq_r]
    by_cases q : i = f
    · rw [if_pos ⟨rfl, q⟩, if_pos q]
    · rw [if_neg (fun z => q z.2), if_neg q]; exact k5 i hi
  · intro e2 f he hf; rw [jq_o (by omega)]; exact k6 e2 f he hf
  · intro i k hi hk; rw [jq_o (by omega)]; exact k9 i k hi hk
  · intro k hk
    rw [jq_o (by omega)]
    exact ⟨(k10 k hk).1, fun r hr => by rw [jq_o (by omega), jq_o (by omega)]; exact (k10 k hk).2 r hr⟩
theorem mD_wid {f w : Nat} (hm : mD K F n b h num wid ord tau gx gy gr lr ll ls sm) : mD K F n b h num (fun g => if g = f then w else wid g) ord tau gx gy gr lr ll ls (jq sm 1 f (nI w)) := by
  obtain ⟨m0, m1, m2, m3, m4, m5, m6, m7, m8⟩ := hm
  refine ⟨m0, m1, m2, ?_, m4, m5, m6, m7, m8⟩
  intro i hi
  show jq _ _ _ _ _ _ = nI (if i = f then w else wid i)
  rw [jq_r]
  by_cases q : i = f
  · rw [if_pos ⟨rfl, q⟩, if_pos q]
  · rw [if_neg (fun z => q z.2), if_neg q]; exact m3 i hi
theorem kD_num {e f v : Nat} (he : e < 24) (hk : kD K F n b h num wid ord tau gx gy gr lr ll ls st) : kD K F n b h (fun a g => if a = e ∧ g = f then v else num a g) wid ord tau gx gy gr lr ll ls (jq st (15 + e) f (nI v)) := by
  obtain ⟨k0, k1, k2, k3, k4, k5, k6, k7, k8, k9, k10⟩ := hk
  refine ⟨?_, ?_, ?_, ?_, ?_, ?_, ?_, ?_, ?_, ?_, ?_⟩
  · rw [jq_o (by omega), jq_o (by omega)]; exact k0
  · rw [jq_o (by omega), jq_o (by omega)]; exact k1
  · rw [jq_o (by omega), jq_o (by omega)]; exact k2
  · rw [jq_o (by omega), jq_o (by omega)]; exact k3
  · intro i hi; rw [jq_o (by omega)]; exact k4 i hi
  · intro i hi; rw [jq_o (by omega)]; exact k5 i hi
  · intro e2 f2 he2 hf2
    show jq _ _ _ _ _ _ = nI (if e2 = e ∧ f2 = f then v else num e2 f2)
    rw [jq_r]
    by_cases q : e2 = e ∧ f2 = f
    · rw [if_pos ⟨by omega, q.2⟩, if_pos q]
    · rw [if_neg (fun z => q ⟨by omega, z.2⟩), if_neg q]; exact k6 e2 f2 he2 hf2
  · intro i hi; rw [jq_o (by omega)]; exact k7 i hi
  · intro i hi; rw [jq_o (by omega), jq_o (by omega)]; exact k8 i hi
  · intro i k hi hk; rw [jq_o (by omega)]; exact k9 i k hi hk
  · intro k hk
    rw [jq_o (by omega)]
    exact ⟨(k10 k hk).1, fun r hr => by rw [jq_o (by omega), jq_o (by omega)]; exact (k10 k hk).2 r hr⟩
theorem mD_num {e f v : Nat} (hF : F ≤ 11) (hf : f < F) (hm : mD K F n b h num wid ord tau gx gy gr lr ll ls sm) : mD K F n b h (fun a g => if a = e ∧ g = f then v else num a g) wid ord tau gx gy gr lr ll ls (jq sm 3 (11 * e + f) (nI v)) := by
  obtain ⟨m0, m1, m2, m3, m4, m5, m6, m7, m8⟩ := hm
  refine ⟨m0, m1, m2, m3, ?_, m5, m6, m7, m8⟩
  intro e2 f2 he2 hf2
  show jq _ _ _ _ _ _ = nI (if e2 = e ∧ f2 = f then v else num e2 f2)
  rw [jq_r]
  by_cases q : e2 = e ∧ f2 = f
  · rw [if_pos ⟨rfl, by rw [q.1, q.2]⟩, if_pos q]
  · rw [if_neg (fun z => q (by have := z.2; omega)), if_neg q]; exact m4 e2 f2 he2 hf2
theorem kD_n {x : Int32} {n' : Nat} (hx : x = nI n') (hk : kD K F n b h num wid ord tau gx gy gr lr ll ls st) : kD K F n' b h num wid ord tau gx gy gr lr ll ls (jq st 1 5 x) := by
  obtain ⟨k0, k1, k2, k3, k4, k5, k6, k7, k8, k9, k10⟩ := hk
  refine ⟨k0, ⟨?_, jq_s.trans hx⟩, k2, k3, k4, k5, ?_, k7, k8, ?_, ?_⟩
  · rw [jq_p (by omega)]; exact k1.1
  · intro e2 f he hf; rw [jq_o (by omega)]; exact k6 e2 f he hf
  · intro i k hi hk; rw [jq_o (by omega)]; exact k9 i k hi hk
  · intro k hk
    rw [jq_o (by omega)]
    exact ⟨(k10 k hk).1, fun r hr => by rw [jq_o (by omega), jq_o (by omega)]; exact (k10 k hk).2 r hr⟩
theorem mD_n {x : Int32} {n' : Nat} (hx : x = nI n') (hm : mD K F n b h num wid ord tau gx gy gr lr ll ls sm) : mD K F n' b h num wid ord tau gx gy gr lr ll ls (jq sm 0 4 x) := by
  obtain ⟨m0, m1, m2, m3, m4, m5, m6, m7, m8⟩ := hm
  refine ⟨⟨?_, ?_⟩, ⟨jq_s.trans hx, ?_, ?_⟩, m2, m3, m4, m5, m6, m7, m8⟩
  · rw [jq_p (by omega)]; exact m0.1
  · rw [jq_p (by omega)]; exact m0.2
  · rw [jq_p (by omega)]; exact m1.2.1
  · rw [jq_p (by omega)]; exact m1.2.2
end UP
theorem mk_1 {sm : jS} {K k : Nat} {post : Int32 → jS → Prop} (hc : sm 0 1 = nI K) (hk : k < K) (hK : K ≤ 1000) (h : post 1 sm) : wp_Mo_isKind sm (nI k) post := mx_1 hc hk hK h
theorem mk_0 {sm : jS} {K : Nat} {x : Int32} {post : Int32 → jS → Prop} (hc : sm 0 1 = nI K) (hK : K ≤ 1000) (hx : x < 0 ∨ nI K ≤ x) (h : post 0 sm) : wp_Mo_isKind sm x post := mx_0 hc hK hx h
theorem me_1 {sm : jS} {n e : Nat} {post : Int32 → jS → Prop} (hc : sm 0 4 = nI n) (he : e < n) (hn : n ≤ 1000) (h : post 1 sm) : wp_Mo_isExample sm (nI e) post := mx_1 hc he hn h
theorem me_0 {sm : jS} {n : Nat} {x : Int32} {post : Int32 → jS → Prop} (hc : sm 0 4 = nI n) (hn : n ≤ 1000) (hx : x < 0 ∨ nI n ≤ x) (h : post 0 sm) : wp_Mo_isExample sm x post := mx_0 hc hn hx h
theorem mf_1 {sm : jS} {F f : Nat} {post : Int32 → jS → Prop} (hc : sm 0 2 = nI F) (hf : f < F) (hF : F ≤ 1000) (h : post 1 sm) : wp_Mo_isFeature sm (nI f) post := mx_1 hc hf hF h
theorem mf_0 {sm : jS} {F : Nat} {x : Int32} {post : Int32 → jS → Prop} (hc : sm 0 2 = nI F) (hF : F ≤ 1000) (hx : x < 0 ∨ nI F ≤ x) (h : post 0 sm) : wp_Mo_isFeature sm x post := mx_0 hc hF hx h
theorem nI_nm1 {k : Nat} (hk : k ≤ 1000) : ¬ nI k = (-1 : Int32) := by
  intro q
  have := congrArg Int32.toInt q
  rw [nI_toInt (by omega), show (-1 : Int32).toInt = -1 by decide] at this
  omega
/-! ===== teach ===== -/
theorem p_2 (K F : Nat) : lOwe wc_2 K F (Rl K F) := by
  intro st f sm a1 a2 a3 a4 hR
  obtain ⟨n, b, h, num, wid, ord, tau, gx, gy, gr, lr, ll, ls, hv, hk, hm⟩ := id hR
  obtain ⟨v0, v1, v2, v3, v4, v5, v6, v7, v8, v9, v10, v11⟩ := id hv
  have hn : sm 0 4 = nI n := hm.2.1.1
  have hK9 : sm 0 1 = nI K := hm.1.1
  unfold wc_2 wp_Lw_teach wp_KT_teach
  rcases ix_cases a1 (n := n) (by omega) with hx | ⟨e, he, rfl⟩
  · refine nx_bad hk.2.1.2 hx ⟨rfl, ?_⟩
    show wp_Mo_teach sm a1 a2 _
    unfold wp_Mo_teach
    refine me_0 hn (by omega) hx ⟨fun s v => s = sm ∧ v = 1, ?_, fun _ => ⟨rfl, rfl⟩, fun q => absurd rfl q⟩
    rintro s v ⟨rfl, rfl⟩
    exact th_p (by decide) (fin_x (by decide) hR)
  · refine nx_ok hk.2.1.2 he (by omega) ?_
    have hok : ∀ x : Int32, (x = -1 ∨ ∃ k, k < K ∧ x = nI k) → wp_Mo_thrown (jq (jq sm 0 0 0) 2 e x) (fun r5 u6 => r5 = 0 ∧ ((0 : Int32) = 0 → (vp_updL f (Int32.toNatClampNeg 0) (tau e).toInt64) (Int32.toNatClampNeg 0) = (tau e).toInt64) ∧ Rl K F (jq st 6 e x) u6) := by
      intro x hx
      refine fin_v (f := f) ⟨n, b, h, num, wid, ord, upd tau e x, gx, gy, gr, lr, ll, ls, ⟨v0, v1, v2, v3, v4, v5, v6, ?_, v8, v9, v10, v11⟩, kD_tau x (by omega) hk, mD_tau x (mD_thr 0 hm)⟩ ?_
      · intro i
        unfold upd
        by_cases q : i = e
        · rw [if_pos q]; exact hx
        · rw [if_neg q]; exact v7 i
      · rw [jq_o (by omega), jq_s]
    have hgo : ∀ x : Int32, (x = -1 ∨ ∃ k, k < K ∧ x = nI k) → vp_in (nI e) 24 ∧ vp_in (nI e) 24 ∧ wp_Mo_teach sm (nI e) x (fun r3 u4 => wp_Mo_thrown u4 (fun r5 u6 => r5 = 0 ∧ ((0 : Int32) = 0 → (vp_updL f (Int32.toNatClampNeg 0) (st 6 (Int32.toNatClampNeg (nI e))).toInt64) (Int32.toNatClampNeg 0) = r3.toInt64) ∧ Rl K F (jq st 6 (Int32.toNatClampNeg (nI e)) x) u6)) := by
      intro x hx
      refine ⟨vp_in_nI (by omega) (by omega), vp_in_nI (by omega) (by omega), ?_⟩
      rw [nI_clamp (by omega), hk.2.2.2.2.1 e (by omega)]
      unfold wp_Mo_teach
      refine me_1 hn he (by omega) ⟨fun s v => s = sm ∧ v = 0, ?_, fun q => absurd q (by decide), fun _ => ⟨fun _ => ⟨rfl, rfl⟩, fun q => ?_⟩⟩
      · rintro s v ⟨rfl, rfl⟩
        refine th_0 ⟨vp_in_nI (by omega) (by omega), vp_in_nI (by omega) (by omega), ?_⟩
        rw [nI_clamp (by omega), jq_o (by omega), hm.2.2.1 e (by omega)]
        exact hok x hx
      · obtain ⟨k, hk9, rfl⟩ := hx.resolve_left q
        exact mk_1 hK9 hk9 (by omega) ⟨fun _ => ⟨rfl, rfl⟩, fun q => absurd q (by decide)⟩
    refine ⟨fun q => hgo a2 (Or.inl q), fun q => ?_⟩
    rcases ix_cases a2 (n := K) (by omega) with hx | ⟨k, hk9, rfl⟩
    · refine nx_bad hk.1.1 hx ⟨rfl, ?_⟩
      show wp_Mo_teach sm (nI e) a2 _
      unfold wp_Mo_teach
      refine me_1 hn he (by omega) ⟨fun s v => s = sm ∧ v = 1, ?_, fun q => absurd q (by decide), fun _ => ⟨fun q2 => absurd q2 q, fun _ => mk_0 hK9 (by omega) hx ⟨fun q => absurd rfl q, fun _ => ⟨rfl, rfl⟩⟩⟩⟩
      rintro s v ⟨rfl, rfl⟩
      exact th_p (by decide) (fin_x (by decide) hR)
    · exact nx_ok hk.1.1 hk9 (by omega) (hgo (nI k) (Or.inr ⟨k, hk9, rfl⟩))
