/-! ===== votes, tell, unknown, right ===== -/
theorem Rl_k {K F : Nat} {st st' sm : jS} (hc : ∀ a, a ≠ 8 → a ≠ 10 → a ≠ 11 → st' a = st a) (h : Rl K F st sm) : Rl K F st' sm := by
  obtain ⟨n, b, hh, num, wid, ord, tau, gx, gy, gr, lr, ll, ls, hv, hk, hm⟩ := h
  exact ⟨n, b, hh, num, wid, ord, tau, gx, gy, gr, lr, ll, ls, hv, kD_congr hc hk, hm⟩
theorem p_5 (K F : Nat) : lOwe wc_5 K F (Rl K F) := by
  intro st f sm a1 a2 a3 a4 hR
  obtain ⟨n, b, h, num, wid, ord, tau, gx, gy, gr, lr, ll, ls, hv, hk, hm⟩ := id hR
  obtain ⟨v0, v1, v2, v3, v4, v5, v6, v7, v8, v9, v10, v11⟩ := id hv
  have hn : sm 0 4 = nI n := hm.2.1.1
  have hK9 : sm 0 1 = nI K := hm.1.1
  unfold wc_5 wp_Lw_votes wp_KT_votes
  rcases ix_cases a1 (n := n) (by omega) with hx | ⟨d, hd, rfl⟩
  · refine nx_bad hk.2.1.2 hx ⟨rfl, ?_⟩
    show wp_Mo_votes sm a1 a2 _
    unfold wp_Mo_votes
    refine me_0 hn (by omega) hx ⟨fun s v => s = sm ∧ v = 1, ?_, fun _ => ⟨rfl, rfl⟩, fun q => absurd rfl q⟩
    rintro s v ⟨rfl, rfl⟩
    exact th_p (by decide) (fin_x (by decide) hR)
  · refine nx_ok hk.2.1.2 hd (by omega) ?_
    rcases ix_cases a2 (n := K) (by omega) with hx | ⟨k, hk9, rfl⟩
    · refine nx_bad hk.1.1 hx ⟨rfl, ?_⟩
      show wp_Mo_votes sm (nI d) a2 _
      unfold wp_Mo_votes
      refine me_1 hn hd (by omega) ⟨fun s v => s = sm ∧ v = 1, ?_, fun q => absurd q (by decide), fun _ => mk_0 hK9 (by omega) hx ⟨fun q => absurd rfl q, fun _ => ⟨rfl, rfl⟩⟩⟩
      rintro s v ⟨rfl, rfl⟩
      exact th_p (by decide) (fin_x (by decide) hR)
    · refine nx_ok hk.1.1 hk9 (by omega) ?_
      unfold wp_Te_votesFor
      show wp_Te_takeVotes K F st (nI d) 0 (st 1 0) _
      rw [hk.2.1.1]
      refine kx_take (lo := 0) hv hk (by omega) (Nat.zero_le _) (Nat.le_refl _) fun st' hs ht => ⟨vp_in_nI hk9 (by omega), ?_⟩
      rw [nI_clamp (show k < 2 ^ 31 by omega), ht k hk9]
      show wp_Mo_votes sm (nI d) (nI k) _
      unfold wp_Mo_votes
      refine me_1 hn hd (by omega) ⟨fun s v => s = sm ∧ v = 0, ?_, fun q => absurd q (by decide), fun _ => mk_1 hK9 hk9 (by omega) ⟨fun _ => ⟨rfl, rfl⟩, fun q => absurd q (by decide)⟩⟩
      rintro s v ⟨rfl, rfl⟩
      refine th_0 ?_
      rw [show jq s 0 0 0 0 2 = nI F from (mD_thr 0 hm).1.2]
      exact mx_votes (lo := 0) hv (mD_thr 0 hm) (by omega) (Nat.zero_le _) (Nat.le_refl _) (fin_v (f := f) (Rl_thr 0 (Rl_k (fun a _ h _ => hs a h) hR)) jq_s)
theorem p_6 (K F : Nat) : lOwe wc_6 K F (Rl K F) := by
  intro st f sm a1 a2 a3 a4 hR
  obtain ⟨n, b, h, num, wid, ord, tau, gx, gy, gr, lr, ll, ls, hv, hk, hm⟩ := id hR
  obtain ⟨v0, v1, v2, v3, v4, v5, v6, v7, v8, v9, v10, v11⟩ := id hv
  have hn : sm 0 4 = nI n := hm.2.1.1
  unfold wc_6 wp_Lw_tell wp_KT_tell
  rcases ix_cases a1 (n := n) (by omega) with hx | ⟨d, hd, rfl⟩
  · refine nx_bad hk.2.1.2 hx ⟨rfl, ?_⟩
    show wp_Mo_tell sm a1 _
    unfold wp_Mo_tell
    refine me_0 hn (by omega) hx ⟨fun v => v = 1, ?_, fun q => absurd rfl q, fun _ => rfl⟩
    rintro v rfl
    exact th_p (by decide) (fin_x (by decide) hR)
  · refine nx_ok hk.2.1.2 hd (by omega) ?_
    unfold wp_Te_told
    show wp_Te_toldBy K F st (nI d) 0 (st 1 0) _
    rw [hk.2.1.1]
    refine kx_told (lo := 0) hv hk (by omega) (Nat.zero_le _) (Nat.le_refl _) fun st' hs => ?_
    show wp_Mo_tell sm (nI d) _
    unfold wp_Mo_tell
    refine me_1 hn hd (by omega) ⟨fun v => v = 0, ?_, fun _ => rfl, fun q => absurd q (by decide)⟩
    rintro v rfl
    refine th_0 ?_
    rw [show jq sm 0 0 0 0 2 = nI F from (mD_thr 0 hm).1.2]
    exact mx_told (lo := 0) hv (mD_thr 0 hm) (by omega) (Nat.zero_le _) (Nat.le_refl _) (fin_v (f := f) (Rl_thr 0 (Rl_k (fun a _ h _ => hs a h) hR)) jq_s)
theorem p_12 (K F : Nat) : lOwe wc_12 K F (Rl K F) := by
  intro st f sm a1 a2 a3 a4 hR
  obtain ⟨n, b, h, num, wid, ord, tau, gx, gy, gr, lr, ll, ls, hv, hk, hm⟩ := id hR
  obtain ⟨v0, v1, v2, v3, v4, v5, v6, v7, v8, v9, v10, v11⟩ := id hv
  have hm0 := mD_thr 0 hm
  have M : ∀ (post : Int32 → jS → Prop), post (nI (cn (fun i => tld K b num wid ord tau i 0 F n == -1) n)) (jq sm 0 0 0) → ∀ m i, i + m = n → wp_Mo_unknown_9 post (m + 1) (jq sm 0 0 0) (nI (cn (fun i => tld K b num wid ord tau i 0 F n == -1) i)) (nI i) := by
    intro post hp m
    induction m with
    | zero =>
      intro i hi
      have e : i = n := by omega
      subst e
      exact ⟨fun _ => hp, fun q => absurd (by rw [hm0.2.1.1]; exact Int32.le_refl _) q⟩
    | succ m ih =>
      intro i hi
      refine ⟨fun q => absurd q (by rw [hm0.2.1.1]; exact nI_ge (by omega) (by omega)), fun _ => ?_⟩
      rw [hm0.1.2]
      refine mx_told (lo := 0) hv hm0 (by omega) (Nat.zero_le _) (Nat.le_refl _) ⟨fun q => ?_, fun q => ?_⟩
      · have := ih (i + 1) (by omega)
        rw [cn_f (by simpa using q)] at this
        rw [nI_1]; exact this
      · have := ih (i + 1) (by omega)
        rw [cn_t (by simpa using q)] at this
        rw [nI_1, nI_1]; exact this
  have C : ∀ (post : Int32 → jS → Prop), (∀ st', (∀ a, a ≠ 10 → st' a = st a) → post (nI (cn (fun i => tld K b num wid ord tau i 0 F n == -1) n)) st') → ∀ m i st', i + m = n → (∀ a, a ≠ 10 → st' a = st a) → wp_Te_countUnknown_4 K F post (m + 1) st' (nI (cn (fun i => tld K b num wid ord tau i 0 F n == -1) i)) (nI i) := by
    intro post hp m
    induction m with
    | zero =>
      intro i st' hi hs
      have e : i = n := by omega
      subst e
      exact ⟨fun _ => hp st' hs, fun q => absurd (by rw [hs 1 (by omega), hk.2.1.2]; exact Int32.le_refl _) q⟩
    | succ m ih =>
      intro i st' hi hs
      have hk' := kD_congr (fun a _ h10 _ => hs a h10) hk
      refine ⟨fun q => absurd q (by rw [hk'.2.1.2]; exact nI_ge (by omega) (by omega)), fun _ => ?_⟩
      unfold wp_Te_told
      rw [hk'.2.1.1]
      refine kx_told (lo := 0) hv hk' (by omega) (Nat.zero_le _) (Nat.le_refl _) fun st2 hs2 => ?_
      have hs3 : ∀ a, a ≠ 10 → st2 a = st a := fun a ha => (hs2 a ha).trans (hs a ha)
      have := ih (i + 1) st2 (by omega) hs3
      refine ⟨fun q => ?_, fun q => ?_⟩
      · rw [cn_f (by simpa using q)] at this
        rw [nI_1]; exact this
      · rw [cn_t (by simpa using q)] at this
        rw [nI_1, nI_1]; exact this
  unfold wc_12 wp_KT_unknown
  refine ⟨n + 1, C _ ?_ n 0 st (by omega) (fun _ _ => rfl)⟩
  intro st' hs
  exact ⟨n + 1, M _ ⟨rfl, Rl_thr 0 (Rl_k (fun a _ h _ => hs a h) hR)⟩ n 0 (by omega)⟩
/-- how many known examples feature f alone tells rightly -/
def rgt (K b : Nat) (num : Nat → Nat → Nat) (wid ord : Nat → Nat) (tau : Nat → Int32) (f n : Nat) : Nat → Nat := cn (fun i => !(tau i == -1) && tld K b num wid ord tau i f (f + 1) n == tau i)
section RT
variable {K F n b h : Nat} {num : Nat → Nat → Nat} {wid ord : Nat → Nat} {tau gx gy : Nat → Int32} {gr : Nat → Nat → Nat} {lr : Nat → Nat} {ll ls : Nat → Nat → Nat} {st sm : jS}
theorem kx_right {f : Nat} {post : Int32 → jS → Prop} (hv : vD K F n b h num wid ord tau gx gy gr lr ll ls) (hk : kD K F n b h num wid ord tau gx gy gr lr ll ls st) (hf : f < F) (hp : ∀ st', (∀ a, a ≠ 10 → st' a = st a) → post (nI (rgt K b num wid ord tau f n n)) st') : wp_Te_rightBy K F st (nI f) post := by
  have hn := hv.2.2.1
  have L : ∀ m i st', i + m = n → (∀ a, a ≠ 10 → st' a = st a) → wp_Te_rightBy_4 K F post (m + 1) st' (nI f) (nI (rgt K b num wid ord tau f n i)) (nI i) := by
    intro m
    induction m with
    | zero =>
      intro i st' hi hs
      have e : i = n := by omega
      subst e
      exact ⟨fun _ => hp st' hs, fun q => absurd (by rw [hs 1 (by omega), hk.2.1.2]; exact Int32.le_refl _) q⟩
    | succ m ih =>
      intro i st' hi hs
      have hk' := kD_congr (fun a _ h10 _ => hs a h10) hk
      refine ⟨fun q => absurd q (by rw [hk'.2.1.2]; exact nI_ge (by omega) (by omega)), fun _ => ⟨vp_in_nI (by omega) (by omega), ?_⟩⟩
      rw [nI_clamp (by omega), hk'.2.2.2.2.1 i (by omega)]
      refine ⟨fun q => ?_, fun q => ?_⟩
      · have := ih (i + 1) st' (by omega) hs
        unfold rgt at this
        rw [cn_f (by simp [q])] at this
        rw [nI_1]; exact this
      · rw [nI_1 f]
        refine kx_told hv hk' (by omega) (by omega) (by omega) fun st2 hs2 => ?_
        have hs3 : ∀ a, a ≠ 10 → st2 a = st a := fun a ha => (hs2 a ha).trans (hs a ha)
        have := ih (i + 1) st2 (by omega) hs3
        unfold rgt at this
        refine ⟨fun q2 => ?_, fun q2 => ?_⟩
        · rw [cn_f (by simp [q, q2])] at this
          rw [nI_1]; exact this
        · rw [cn_t (by simp [q, q2])] at this
          rw [nI_1, nI_1]; exact this
  exact ⟨n + 1, L n 0 st (by omega) (fun _ _ => rfl)⟩
theorem mx_right {f : Nat} {post : Int32 → jS → Prop} (hv : vD K F n b h num wid ord tau gx gy gr lr ll ls) (hm : mD K F n b h num wid ord tau gx gy gr lr ll ls sm) (hf : f < F) (hp : post (nI (rgt K b num wid ord tau f n n)) sm) : wp_Mo_rightOf sm (nI f) post := by
  have hn := hv.2.2.1
  have L : ∀ m i, i + m = n → wp_Mo_rightOf_4 post (m + 1) sm (nI f) (nI (rgt K b num wid ord tau f n i)) (nI i) := by
    intro m
    induction m with
    | zero =>
      intro i hi
      have e : i = n := by omega
      subst e
      exact ⟨fun _ => hp, fun q => absurd (by rw [hm.2.1.1]; exact Int32.le_refl _) q⟩
    | succ m ih =>
      intro i hi
      refine ⟨fun q => absurd q (by rw [hm.2.1.1]; exact nI_ge (by omega) (by omega)), fun _ => ⟨vp_in_nI (by omega) (by omega), ?_⟩⟩
      have := ih (i + 1) (by omega)
      unfold rgt at this
      rw [nI_clamp (by omega), hm.2.2.1 i (by omega)]
      refine ⟨fun q => ?_, fun q => ?_⟩
      · rw [cn_f (by simp [q])] at this
        rw [nI_1]; exact this
      · rw [nI_1 f]
        refine mx_told hv hm (by omega) (by omega) (by omega) ⟨vp_in_nI (by omega) (by omega), ?_⟩
        rw [hm.2.2.1 i (by omega)]
        refine ⟨fun q2 => ?_, fun q2 => ?_⟩
        · rw [cn_f (by simp [q, q2])] at this
          rw [nI_1]; exact this
        · rw [cn_t (by simp [q, q2])] at this
          rw [nI_1, nI_1]; exact this
  exact ⟨n + 1, L n 0 (by omega)⟩
end RT
theorem p_10 (K F : Nat) : lOwe wc_10 K F (Rl K F) := by
  intro st f sm a1 a2 a3 a4 hR
  obtain ⟨n, b, h, num, wid, ord, tau, gx, gy, gr, lr, ll, ls, hv, hk, hm⟩ := id hR
  obtain ⟨v0, v1, v2, v3, v4, v5, v6, v7, v8, v9, v10, v11⟩ := id hv
  have hF : sm 0 2 = nI F := hm.1.2
  unfold wc_10 wp_Lw_right wp_KT_right
  rcases ix_cases a1 (n := F) (by omega) with hx | ⟨d, hd, rfl⟩
  · refine nx_bad hk.1.2 hx ⟨rfl, ?_⟩
    show wp_Mo_right sm a1 _
    unfold wp_Mo_right
    refine mf_0 hF (by omega) hx ⟨fun v => v = 1, ?_, fun q => absurd rfl q, fun _ => rfl⟩
    rintro v rfl
    exact th_p (by decide) (fin_x (by decide) hR)
  · refine nx_ok hk.1.2 hd (by omega) (kx_right hv hk hd fun st' hs => ?_)
    show wp_Mo_right sm (nI d) _
    unfold wp_Mo_right
    refine mf_1 hF hd (by omega) ⟨fun v => v = 0, ?_, fun _ => rfl, fun q => absurd q (by decide)⟩
    rintro v rfl
    exact th_0 (mx_right hv (mD_thr 0 hm) hd (fin_v (f := f) (Rl_thr 0 (Rl_k (fun a _ h _ => hs a h) hR)) jq_s))
