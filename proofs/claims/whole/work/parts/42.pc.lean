/-! ===== wrong, mixed ===== -/
theorem cn_split (p q : Nat → Bool) (i : Nat) : cn (fun j => p j && q j) i + cn (fun j => p j && !q j) i = cn p i := by
  induction i with
  | zero => rfl
  | succ i ih =>
    by_cases h : p i = true
    · by_cases h2 : q i = true
      · rw [cn_t (p := fun j => p j && q j) (by simp [h, h2]), cn_f (p := fun j => p j && !q j) (by simp [h, h2]), cn_t h]; omega
      · rw [cn_f (p := fun j => p j && q j) (by simp [h, h2]), cn_t (p := fun j => p j && !q j) (by simp [h, h2]), cn_t h]; omega
    · rw [cn_f (p := fun j => p j && q j) (by simp [h]), cn_f (p := fun j => p j && !q j) (by simp [h]), cn_f h]; omega
section WM
variable {K F n b h : Nat} {num : Nat → Nat → Nat} {wid ord : Nat → Nat} {tau gx gy : Nat → Int32} {gr : Nat → Nat → Nat} {lr : Nat → Nat} {ll ls : Nat → Nat → Nat} {st sm : jS}
theorem kx_ct {x1 x2 : Int32} {post : Int32 → jS → Prop} (hv : vD K F n b h num wid ord tau gx gy gr lr ll ls) (hk : kD K F n b h num wid ord tau gx gy gr lr ll ls st) (hp : ∀ st', (∀ a, a ≠ 10 → st' a = st a) → post (nI (cn (fun i => tau i == x1 && tld K b num wid ord tau i 0 F n == x2) n)) st') : wp_Te_countTold K F st x1 x2 post := by
  have hn := hv.2.2.1
  have L : ∀ m i st', i + m = n → (∀ a, a ≠ 10 → st' a = st a) → wp_Te_countTold_5 K F post (m + 1) st' x1 x2 (nI (cn (fun i => tau i == x1 && tld K b num wid ord tau i 0 F n == x2) i)) (nI i) := by
    intro m
    induction m with
    | zero =>
      intro i st' hi hs
      have e : i = n := by omega
      subst e
      exact ⟨fun _ => hp st' hs, fun q => absurd (by rw [hs 1 (by omega), hk.2.1.2]; exact Int32.le_refl _) q⟩
    | succ m ih =>
      intro i st' hi hs
      have hk' := kD_congr (fun a _ h10 _ => hs a h10) hk
      refine ⟨fun q => absurd q (by rw [hk'.2.1.2]; exact nI_ge (by omega) (by omega)), fun _ => ⟨vp_in_nI (by omega) (by omega), ?_⟩⟩
      rw [nI_clamp (by omega), hk'.2.2.2.2.1 i (by omega)]
      refine ⟨fun q => ?_, fun q => ?_⟩
      · have := ih (i + 1) st' (by omega) hs
        rw [cn_f (by simp [q])] at this
        rw [nI_1]; exact this
      · unfold wp_Te_told
        rw [hk'.2.1.1]
        refine kx_told (lo := 0) hv hk' (by omega) (Nat.zero_le _) (Nat.le_refl _) fun st2 hs2 => ?_
        have hs3 : ∀ a, a ≠ 10 → st2 a = st a := fun a ha => (hs2 a ha).trans (hs a ha)
        have := ih (i + 1) st2 (by omega) hs3
        refine ⟨fun q2 => ?_, fun q2 => ?_⟩
        · rw [cn_f (by simp [q2])] at this
          rw [nI_1]; exact this
        · rw [cn_t (by simp [q, q2])] at this
          rw [nI_1, nI_1]; exact this
  exact ⟨n + 1, L n 0 st (by omega) (fun _ _ => rfl)⟩
theorem kx_tg {x1 : Int32} {post : Int32 → jS → Prop} (hv : vD K F n b h num wid ord tau gx gy gr lr ll ls) (hk : kD K F n b h num wid ord tau gx gy gr lr ll ls st) (hp : post (nI (cn (fun i => tau i == x1) n)) st) : wp_Ex_countTaught K F st x1 post :=
  ⟨n + 1, ct_loop hk hv.2.2.1 hp n 0 (by omega)⟩
theorem mx_wrong {x1 x2 x3 : Int32} {post : Int32 → jS → Prop} (hv : vD K F n b h num wid ord tau gx gy gr lr ll ls) (hm : mD K F n b h num wid ord tau gx gy gr lr ll ls sm) (hp : post (Int64.toInt32 (ptf (cn (fun i => tau i == x1 && tld K b num wid ord tau i 0 F n == x2) n) (cn (fun i => tau i == x1) n) x3)) sm) : ∃ N, wp_Mo_wrong_57 post N sm x1 x2 x3 (0 : Int32) (0 : Int32) (0 : Int32) := by
  have hn := hv.2.2.1
  have L : ∀ m i, i + m = n → wp_Mo_wrong_57 post (m + 1) sm x1 x2 x3 (nI (cn (fun i => tau i == x1 && tld K b num wid ord tau i 0 F n == x2) i)) (nI (cn (fun i => tau i == x1) i)) (nI i) := by
    intro m
    induction m with
    | zero =>
      intro i hi
      have e : i = n := by omega
      subst e
      refine ⟨fun _ => ?_, fun q => absurd (by rw [hm.2.1.1]; exact Int32.le_refl _) q⟩
      have l1 := cn_le (fun j => tau j == x1 && tld K b num wid ord tau j 0 F i == x2) i
      have l2 := cn_le (fun j => tau j == x1) i
      rw [nI_l (by omega), nI_l (by omega)]
      exact mx_part (by omega) (by omega) hp
    | succ m ih =>
      intro i hi
      have I := ih (i + 1) (by omega)
      refine ⟨fun q => absurd q (by rw [hm.2.1.1]; exact nI_ge (by omega) (by omega)), fun _ => ⟨vp_in_nI (by omega) (by omega), fun v => v = nI (cn (fun i => tau i == x1) (i + 1)), ?_, ?_⟩⟩
      · rintro v rfl
        refine ⟨vp_in_nI (by omega) (by omega), ?_⟩
        rw [nI_clamp (by omega), hm.2.2.1 i (by omega), nI_1]
        refine ⟨fun q => ?_, fun q => ?_⟩
        · rw [cn_f (p := fun i => tau i == x1 && tld K b num wid ord tau i 0 F n == x2) (by simp [q])] at I
          exact I
        · rw [hm.1.2]
          refine mx_told (lo := 0) hv hm (by omega) (Nat.zero_le _) (Nat.le_refl _) ⟨fun q2 => ?_, fun q2 => ?_⟩
          · rw [cn_f (p := fun i => tau i == x1 && tld K b num wid ord tau i 0 F n == x2) (by simp [q2])] at I
            exact I
          · rw [cn_t (p := fun i => tau i == x1 && tld K b num wid ord tau i 0 F n == x2) (by simp [q, q2])] at I
            rw [nI_1]; exact I
      · rw [nI_clamp (by omega), hm.2.2.1 i (by omega)]
        refine ⟨fun q => ?_, fun q => ?_⟩
        · show _ = _
          rw [cn_f (p := fun i => tau i == x1) (by simp [q])]
        · show _ = _
          rw [cn_t (p := fun i => tau i == x1) (by simp [q]), nI_1]
  exact ⟨n + 1, L n 0 (by omega)⟩
theorem mx_mixed {k : Nat} {x2 : Int32} {post : Int32 → jS → Prop} (hv : vD K F n b h num wid ord tau gx gy gr lr ll ls) (hm : mD K F n b h num wid ord tau gx gy gr lr ll ls sm) (hk6 : k < 1000) (hp : post (Int64.toInt32 (ptf (cn (fun i => tau i == -1 && tld K b num wid ord tau i 0 F n == nI k) n) (cn (fun i => tau i == -1 && !(tld K b num wid ord tau i 0 F n == -1)) n) x2)) sm) : ∃ N, wp_Mo_mixed_43 post N sm (nI k) x2 (0 : Int32) (0 : Int32) (0 : Int32) := by
  have hn := hv.2.2.1
  have nk : ¬ (-1 : Int32) = nI k := fun q => nI_nm1 (by omega) q.symm
  have L : ∀ m i, i + m = n → wp_Mo_mixed_43 post (m + 1) sm (nI k) x2 (nI (cn (fun i => tau i == -1 && tld K b num wid ord tau i 0 F n == nI k) i)) (nI (cn (fun i => tau i == -1 && !(tld K b num wid ord tau i 0 F n == -1)) i)) (nI i) := by
    intro m
    induction m with
    | zero =>
      intro i hi
      have e : i = n := by omega
      subst e
      refine ⟨fun _ => ?_, fun q => absurd (by rw [hm.2.1.1]; exact Int32.le_refl _) q⟩
      have l1 := cn_le (fun j => tau j == -1 && tld K b num wid ord tau j 0 F i == nI k) i
      have l2 := cn_le (fun j => tau j == -1 && !(tld K b num wid ord tau j 0 F i == -1)) i
      rw [nI_l (by omega), nI_l (by omega)]
      exact mx_part (by omega) (by omega) hp
    | succ m ih =>
      intro i hi
      have I := ih (i + 1) (by omega)
      refine ⟨fun q => absurd q (by rw [hm.2.1.1]; exact nI_ge (by omega) (by omega)), fun _ => ⟨vp_in_nI (by omega) (by omega), fun s v => s = sm ∧ v = (if tau i = -1 then tld K b num wid ord tau i 0 F n else -1), ?_, ?_⟩⟩
      · rintro s v ⟨rfl, rfl⟩
        refine ⟨fun w => w = nI (cn (fun i => tau i == -1 && tld K b num wid ord tau i 0 F n == nI k) (i + 1)), ?_, ?_⟩
        · rintro w rfl
          rw [nI_1]
          by_cases q : tau i = -1
          · rw [if_pos q]
            refine ⟨fun q2 => ?_, fun q2 => ?_⟩
            · rw [cn_f (p := fun i => tau i == -1 && !(tld K b num wid ord tau i 0 F n == -1)) (by simp [q2])] at I
              exact I
            · rw [cn_t (p := fun i => tau i == -1 && !(tld K b num wid ord tau i 0 F n == -1)) (by simp [q, q2])] at I
              rw [nI_1]; exact I
          · rw [if_neg q]
            refine ⟨fun q2 => ?_, fun q2 => absurd rfl q2⟩
            rw [cn_f (p := fun i => tau i == -1 && !(tld K b num wid ord tau i 0 F n == -1)) (by simp [q])] at I
            exact I
        · by_cases q : tau i = -1
          · rw [if_pos q]
            refine ⟨fun q2 => ?_, fun q2 => ?_⟩
            · show _ = _
              rw [cn_f (p := fun i => tau i == -1 && tld K b num wid ord tau i 0 F n == nI k) (by simp [q2])]
            · show _ = _
              rw [cn_t (p := fun i => tau i == -1 && tld K b num wid ord tau i 0 F n == nI k) (by simp [q, q2]), nI_1]
          · rw [if_neg q]
            refine ⟨fun q2 => ?_, fun q2 => absurd q2 nk⟩
            show _ = _
            rw [cn_f (p := fun i => tau i == -1 && tld K b num wid ord tau i 0 F n == nI k) (by simp [q])]
      · rw [nI_clamp (by omega), hm.2.2.1 i (by omega)]
        refine ⟨fun q => ⟨rfl, by rw [if_neg q]⟩, fun q => ?_⟩
        rw [hm.1.2]
        exact mx_told (lo := 0) hv hm (by omega) (Nat.zero_le _) (Nat.le_refl _) ⟨rfl, by rw [if_pos q]⟩
  exact ⟨n + 1, L n 0 (by omega)⟩
end WM
theorem p_9 (K F : Nat) : lOwe wc_9 K F (Rl K F) := by
  intro st f sm a1 a2 a3 a4 hR
  obtain ⟨n, b, h, num, wid, ord, tau, gx, gy, gr, lr, ll, ls, hv, hk, hm⟩ := id hR
  obtain ⟨v0, v1, v2, v3, v4, v5, v6, v7, v8, v9, v10, v11⟩ := id hv
  have hK9 : sm 0 1 = nI K := hm.1.1
  unfold wc_9 wp_Lw_wrong wp_KT_wrong
  rcases ix_cases a1 (n := K) (by omega) with hx | ⟨k, hk9, rfl⟩
  · refine nx_bad hk.1.1 hx ⟨rfl, ?_⟩
    show wp_Mo_wrong sm a1 a2 a3 _
    unfold wp_Mo_wrong
    refine mk_0 hK9 (by omega) hx ⟨fun s v => s = sm ∧ v = 1, ?_, fun _ => ⟨rfl, rfl⟩, fun q => absurd rfl q⟩
    rintro s v ⟨rfl, rfl⟩
    exact th_p (by decide) (fin_x (by decide) hR)
  · refine nx_ok hk.1.1 hk9 (by omega) ?_
    rcases kn_cases a2 (K := K) (by omega) with hx | hx
    · refine kn_ok hk.1.1 (by omega) hx ?_
      rcases np_cases a3 with hw | hw
      · refine np_ok hw (kx_ct hv hk fun st1 hs1 => kx_tg hv (kD_congr (fun a _ h _ => hs1 a h) hk) ?_)
        have l1 := cn_le (fun j => tau j == nI k && tld K b num wid ord tau j 0 F n == a2) n
        have l2 := cn_le (fun j => tau j == nI k) n
        rw [nI_l (by omega), nI_l (by omega)]
        refine kx_part (by omega) (by omega) hw ?_
        show wp_Mo_wrong sm (nI k) a2 a3 _
        unfold wp_Mo_wrong
        refine mk_1 hK9 hk9 (by omega) ⟨fun s v => s = sm ∧ v = 0, ?_, fun q => absurd q (by decide), fun _ => ⟨fun _ => mp_1 hw ⟨fun _ => ⟨rfl, rfl⟩, fun q => absurd q (by decide)⟩, fun q => ?_⟩⟩
        · rintro s v ⟨rfl, rfl⟩
          exact th_0 (mx_wrong hv (mD_thr 0 hm) (fin_v (f := f) (Rl_thr 0 (Rl_k (fun a _ h _ => hs1 a h) hR)) jq_s))
        · obtain ⟨k2, hk2, rfl⟩ := hx.resolve_left q
          exact mk_1 hK9 hk2 (by omega) ⟨fun q => absurd q (by decide), fun _ => mp_1 hw ⟨fun _ => ⟨rfl, rfl⟩, fun q => absurd q (by decide)⟩⟩
      · refine np_bad hw ⟨rfl, ?_⟩
        show wp_Mo_wrong sm (nI k) a2 a3 _
        unfold wp_Mo_wrong
        refine mk_1 hK9 hk9 (by omega) ⟨fun s v => s = sm ∧ v = 1, ?_, fun q => absurd q (by decide), fun _ => ⟨fun _ => mp_0 hw ⟨fun q => absurd rfl q, fun _ => ⟨rfl, rfl⟩⟩, fun q => ?_⟩⟩
        · rintro s v ⟨rfl, rfl⟩
          exact th_p (by decide) (fin_x (by decide) hR)
        · obtain ⟨k2, hk2, rfl⟩ := hx.resolve_left q
          exact mk_1 hK9 hk2 (by omega) ⟨fun q => absurd q (by decide), fun _ => mp_0 hw ⟨fun q => absurd rfl q, fun _ => ⟨rfl, rfl⟩⟩⟩
    · refine kn_bad hk.1.1 hx ⟨rfl, ?_⟩
      show wp_Mo_wrong sm (nI k) a2 a3 _
      unfold wp_Mo_wrong
      refine mk_1 hK9 hk9 (by omega) ⟨fun s v => s = sm ∧ v = 1, ?_, fun q => absurd q (by decide), fun _ => ⟨fun q => absurd q hx.1, fun _ => mk_0 hK9 (by omega) hx.2 ⟨fun _ => ⟨rfl, rfl⟩, fun q => absurd rfl q⟩⟩⟩
      rintro s v ⟨rfl, rfl⟩
      exact th_p (by decide) (fin_x (by decide) hR)
theorem p_13 (K F : Nat) : lOwe wc_13 K F (Rl K F) := by
  intro st f sm a1 a2 a3 a4 hR
  obtain ⟨n, b, h, num, wid, ord, tau, gx, gy, gr, lr, ll, ls, hv, hk, hm⟩ := id hR
  obtain ⟨v0, v1, v2, v3, v4, v5, v6, v7, v8, v9, v10, v11⟩ := id hv
  have hK9 : sm 0 1 = nI K := hm.1.1
  unfold wc_13 wp_Lw_mixed wp_KT_mixed
  rcases ix_cases a1 (n := K) (by omega) with hx | ⟨k, hk9, rfl⟩
  · refine nx_bad hk.1.1 hx ⟨rfl, ?_⟩
    show wp_Mo_mixed sm a1 a2 _
    unfold wp_Mo_mixed
    refine mk_0 hK9 (by omega) hx ⟨fun s v => s = sm ∧ v = 1, ?_, fun _ => ⟨rfl, rfl⟩, fun q => absurd rfl q⟩
    rintro s v ⟨rfl, rfl⟩
    exact th_p (by decide) (fin_x (by decide) hR)
  · refine nx_ok hk.1.1 hk9 (by omega) ?_
    rcases np_cases a2 with hw | hw
    · refine np_ok hw (kx_tg hv hk (kx_ct hv hk fun st1 hs1 => kx_ct hv (kD_congr (fun a _ h _ => hs1 a h) hk) fun st2 hs2 => ?_))
      have hs3 : ∀ a, a ≠ 10 → st2 a = st a := fun a ha => (hs2 a ha).trans (hs1 a ha)
      have l1 := cn_le (fun j => tau j == -1 && tld K b num wid ord tau j 0 F n == nI k) n
      have l2 := cn_le (fun j => tau j == -1) n
      have l3 := cn_split (fun j => tau j == -1) (fun j => tld K b num wid ord tau j 0 F n == -1) n
      rw [pk_sub (by omega), nI_l (by omega), nI_l (by omega), show cn (fun i => tau i == -1) n - cn (fun i => tau i == -1 && tld K b num wid ord tau i 0 F n == -1) n = cn (fun j => tau j == -1 && !(tld K b num wid ord tau j 0 F n == -1)) n by omega]
      refine kx_part (by omega) (by omega) hw ?_
      show wp_Mo_mixed sm (nI k) a2 _
      unfold wp_Mo_mixed
      refine mk_1 hK9 hk9 (by omega) ⟨fun s v => s = sm ∧ v = 0, ?_, fun q => absurd q (by decide), fun _ => mp_1 hw ⟨fun _ => ⟨rfl, rfl⟩, fun q => absurd q (by decide)⟩⟩
      rintro s v ⟨rfl, rfl⟩
      exact th_0 (mx_mixed hv (mD_thr 0 hm) (by omega) (fin_v (f := f) (Rl_thr 0 (Rl_k (fun a _ h _ => hs3 a h) hR)) jq_s))
    · refine np_bad hw ⟨rfl, ?_⟩
      show wp_Mo_mixed sm (nI k) a2 _
      unfold wp_Mo_mixed
      refine mk_1 hK9 hk9 (by omega) ⟨fun s v => s = sm ∧ v = 1, ?_, fun q => absurd q (by decide), fun _ => mp_0 hw ⟨fun q => absurd rfl q, fun _ => ⟨rfl, rfl⟩⟩⟩
      rintro s v ⟨rfl, rfl⟩
      exact th_p (by decide) (fin_x (by decide) hR)
