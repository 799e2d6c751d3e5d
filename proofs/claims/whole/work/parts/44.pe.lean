/-! ===== nearest ===== -/
def cnd (tau : Nat → Int32) (d i : Nat) : Bool := decide (¬ i = d ∧ ¬ tau i = -1)
def nrr (D : Nat → Int32) (i j : Nat) : Bool := decide (D i < D j ∨ (D i = D j ∧ i < j))
def ncn (D : Nat → Int32) (tau : Nat → Int32) (d j m : Nat) : Nat := cn (fun i => cnd tau d i && nrr D i j) m
/-- the first from j on among m -/
def fnd (P : Nat → Bool) : Nat → Nat → Int32
  | 0, _ => -1
  | m + 1, j => if P j then nI j else fnd P m (j + 1)
section NE
variable {K F n b h : Nat} {num : Nat → Nat → Nat} {wid ord : Nat → Nat} {tau gx gy : Nat → Int32} {gr : Nat → Nat → Nat} {lr : Nat → Nat} {ll ls : Nat → Nat → Nat} {st sm : jS}
theorem kx_cnd {d i : Nat} {post : Int32 → jS → Prop} (hk : kD K F n b h num wid ord tau gx gy gr lr ll ls st) (hd : d < 24) (hi : i < 24) (hp : post (if cnd tau d i = true then 1 else 0) st) : wp_Ex_isCandidate K F st (nI i) (nI d) post := by
  have D : cnd tau d i = true ↔ (¬ i = d ∧ ¬ tau i = -1) := by unfold cnd; rw [decide_eq_true_eq]
  unfold wp_Ex_isCandidate
  rw [nI_eq (by omega) (by omega), nI_clamp (by omega), hk.2.2.2.2.1 i hi]
  refine ⟨fun q => ?_, fun q => ⟨vp_in_nI hi (by omega), fun q1 => ?_, fun q1 => ?_⟩⟩
  · rw [if_neg (fun z => (D.mp z).1 q)] at hp; exact hp
  · rw [if_neg (fun z => (D.mp z).2 q1)] at hp; exact hp
  · rw [if_pos (D.mpr ⟨q, q1⟩)] at hp; exact hp
theorem mx_cnd {d i : Nat} {post : Int32 → jS → Prop} (hm : mD K F n b h num wid ord tau gx gy gr lr ll ls sm) (hd : d < 24) (hi : i < 24) (hp : post (if cnd tau d i = true then 1 else 0) sm) : wp_Mo_isNear sm (nI i) (nI d) post := by
  have D : cnd tau d i = true ↔ (¬ i = d ∧ ¬ tau i = -1) := by unfold cnd; rw [decide_eq_true_eq]
  unfold wp_Mo_isNear
  rw [nI_eq (by omega) (by omega), nI_clamp (by omega), hm.2.2.1 i hi]
  refine ⟨fun q => ?_, fun q => ⟨vp_in_nI hi (by omega), fun q1 => ?_, fun q1 => ?_⟩⟩
  · rw [if_neg (fun z => (D.mp z).1 q)] at hp; exact hp
  · rw [if_neg (fun z => (D.mp z).2 q1)] at hp; exact hp
  · rw [if_pos (D.mpr ⟨q, q1⟩)] at hp; exact hp
theorem kx_ncn {d j : Nat} {post : Int32 → jS → Prop} (hv : vD K F n b h num wid ord tau gx gy gr lr ll ls) (hk : kD K F n b h num wid ord tau gx gy gr lr ll ls st) (hd : d < 24) (hj : j < 24) (hp : post (nI (ncn (fun i => sq num i d F) tau d j n)) st) : wp_Ex_countNearer K F st (nI j) (nI d) post := by
  have hn := hv.2.2.1
  unfold wp_Ex_countNearer
  have L : ∀ m i, i + m = n → wp_Ex_countNearer_13 K F post (m + 1) st (nI j) (nI d) (sq num j d F) (nI (ncn (fun i => sq num i d F) tau d j i)) (nI i) := by
    intro m
    induction m with
    | zero =>
      intro i hi
      have e : i = n := by omega
      subst e
      exact ⟨fun _ => hp, fun q => absurd (by rw [hk.2.1.2]; exact Int32.le_refl _) q⟩
    | succ m ih =>
      intro i hi
      have I := ih (i + 1) (by omega)
      unfold ncn at I
      have D : nrr (fun i => sq num i d F) i j = true ↔ (sq num i d F < sq num j d F ∨ (sq num i d F = sq num j d F ∧ i < j)) := by unfold nrr; rw [decide_eq_true_eq]
      refine ⟨fun q => absurd q (by rw [hk.2.1.2]; exact nI_ge (by omega) (by omega)), fun _ => kx_cnd hk hd (by omega) ?_⟩
      by_cases c : cnd tau d i = true
      · have Y : nrr (fun i => sq num i d F) i j = true → wp_Ex_countNearer_13 K F post (m + 1) st (nI j) (nI d) (sq num j d F) (nI (ncn (fun i => sq num i d F) tau d j i) + 1) (nI i + 1) := by
          intro q
          rw [cn_t (p := fun i => cnd tau d i && nrr (fun i => sq num i d F) i j) (by rw [c, q]; rfl)] at I
          rw [nI_1, nI_1]; exact I
        have N : ¬ nrr (fun i => sq num i d F) i j = true → wp_Ex_countNearer_13 K F post (m + 1) st (nI j) (nI d) (sq num j d F) (nI (ncn (fun i => sq num i d F) tau d j i)) (nI i + 1) := by
          intro q
          rw [cn_f (p := fun i => cnd tau d i && nrr (fun i => sq num i d F) i j) (by rw [c]; exact q)] at I
          rw [nI_1]; exact I
        rw [if_pos c]
        refine ⟨fun z => absurd z (by decide), fun _ => kx_sq hv hk (by omega) hd ?_⟩
        refine ⟨fun q => Y (D.mpr (Or.inl q)), fun q => ⟨fun q1 => N (fun z => (D.mp z).elim q (fun w => q1 w.1)), fun q1 => ⟨fun q2 => N (fun z => ?_), fun q2 => Y (D.mpr (Or.inr ⟨q1, ?_⟩))⟩⟩⟩
        · rcases D.mp z with w | w
          · exact q w
          · exact nI_ge w.2 (by omega) q2
        · rw [nI_leI (by omega) (by omega)] at q2; omega
      · rw [if_neg c]
        refine ⟨fun _ => ?_, fun z => absurd rfl z⟩
        rw [cn_f (p := fun i => cnd tau d i && nrr (fun i => sq num i d F) i j) (fun z => c (Bool.and_eq_true_iff.mp z).1)] at I
        rw [nI_1]; exact I
  exact kx_sq hv hk hj hd ⟨n + 1, L n 0 (by omega)⟩
theorem kx_near {d : Nat} {x : Int32} {post : Int32 → jS → Prop} (hv : vD K F n b h num wid ord tau gx gy gr lr ll ls) (hk : kD K F n b h num wid ord tau gx gy gr lr ll ls st) (hd : d < 24) (hp : post (fnd (fun j => cnd tau d j && decide (nI (ncn (fun i => sq num i d F) tau d j n) = x)) n 0) st) : wp_Ex_neighbour K F st (nI d) x post := by
  have hn := hv.2.2.1
  have L : ∀ m j, j + m = n → post (fnd (fun j => cnd tau d j && decide (nI (ncn (fun i => sq num i d F) tau d j n) = x)) m j) st → wp_Ex_neighbour_2 K F post (m + 1) st (nI d) x (nI j) := by
    intro m
    induction m with
    | zero =>
      intro j hj hp
      have e : j = n := by omega
      subst e
      exact ⟨fun _ => hp, fun q => absurd (by rw [hk.2.1.2]; exact Int32.le_refl _) q⟩
    | succ m ih =>
      intro j hj hp
      unfold fnd at hp
      refine ⟨fun q => absurd q (by rw [hk.2.1.2]; exact nI_ge (by omega) (by omega)), fun _ => kx_cnd hk hd (by omega) ?_⟩
      by_cases c : cnd tau d j = true
      · rw [if_pos c]
        refine ⟨fun z => absurd z (by decide), fun _ => kx_ncn hv hk hd (by omega) ⟨fun q => ?_, fun q => ?_⟩⟩
        · rw [if_neg (fun z => q (of_decide_eq_true (Bool.and_eq_true_iff.mp z).2))] at hp
          rw [nI_1]; exact ih (j + 1) (by omega) hp
        · rw [if_pos (Bool.and_eq_true_iff.mpr ⟨c, decide_eq_true q⟩)] at hp
          exact hp
      · rw [if_neg c]
        refine ⟨fun _ => ?_, fun z => absurd rfl z⟩
        rw [if_neg (fun z => c (Bool.and_eq_true_iff.mp z).1)] at hp
        rw [nI_1]; exact ih (j + 1) (by omega) hp
  exact ⟨n + 1, L n 0 (by omega) hp⟩
theorem mx_near {d : Nat} {x : Int32} {post : Int32 → jS → Prop} {kont : jS → Int32 → Int32 → Int32 → Prop} (hv : vD K F n b h num wid ord tau gx gy gr lr ll ls) (hm : mD K F n b h num wid ord tau gx gy gr lr ll ls sm) (h00 : sm 0 0 = 0) (hd : d < 24) (hkont : post (-1) sm → kont sm (nI d) x (nI n)) (hp : post (fnd (fun j => cnd tau d j && decide (nI (ncn (fun i => sq num i d F) tau d j n) = x)) n 0) sm) : ∃ N, wp_Mo_nearest_27 post kont N sm (nI d) x (0 : Int32) := by
  have hn := hv.2.2.1
  have h04 : sm 0 4 = nI n := hm.2.1.1
  have I : ∀ (kont : jS → Int32 → Int32 → Int32 → Int32 → Int32 → Prop) (j : Nat), j < 24 → kont sm (nI d) x (nI j) (nI (ncn (fun i => sq num i d F) tau d j n)) (nI n) → ∀ m i, i + m = n → wp_Mo_nearest_48 post kont (m + 1) sm (nI d) x (nI j) (nI (ncn (fun i => sq num i d F) tau d j i)) (nI i) := by
    intro kont j hj hkont m
    induction m with
    | zero =>
      intro i hi
      have e : i = n := by omega
      subst e
      exact ⟨fun _ => hkont, fun q => absurd (by rw [h04]; exact Int32.le_refl _) q⟩
    | succ m ih =>
      intro i hi
      have I := ih (i + 1) (by omega)
      unfold ncn at I
      have D : nrr (fun i => sq num i d F) i j = true ↔ (sq num i d F < sq num j d F ∨ (sq num i d F = sq num j d F ∧ i < j)) := by unfold nrr; rw [decide_eq_true_eq]
      refine ⟨fun q => absurd q (by rw [h04]; exact nI_ge (by omega) (by omega)), fun _ => mx_sq hv hm (by omega) hd (mx_sq hv hm hj hd ⟨fun s v => s = sm ∧ v = (if nrr (fun i => sq num i d F) i j = true then 1 else 0), ?_, ?_⟩)⟩
      · rintro s v ⟨rfl, rfl⟩
        by_cases q : nrr (fun i => sq num i d F) i j = true
        · rw [if_pos q]
          refine ⟨fun z => absurd z (by decide), fun _ => mx_cnd hm hd (by omega) ?_⟩
          by_cases c : cnd tau d i = true
          · rw [if_pos c]
            refine ⟨fun z => absurd z (by decide), fun _ => ?_⟩
            rw [cn_t (p := fun i => cnd tau d i && nrr (fun i => sq num i d F) i j) (by rw [c, q]; rfl)] at I
            rw [nI_1, nI_1]; exact I
          · rw [if_neg c]
            refine ⟨fun _ => ?_, fun z => absurd rfl z⟩
            rw [cn_f (p := fun i => cnd tau d i && nrr (fun i => sq num i d F) i j) (fun z => c (Bool.and_eq_true_iff.mp z).1)] at I
            rw [nI_1]; exact I
        · rw [if_neg q]
          refine ⟨fun _ => ?_, fun z => absurd rfl z⟩
          rw [cn_f (p := fun i => cnd tau d i && nrr (fun i => sq num i d F) i j) (fun z => q (Bool.and_eq_true_iff.mp z).2)] at I
          rw [nI_1]; exact I
      · refine ⟨fun q => ⟨rfl, by rw [if_pos (D.mpr (Or.inl q))]⟩, fun q => mx_sq hv hm (by omega) hd (mx_sq hv hm hj hd ?_)⟩
        refine ⟨fun q1 => ⟨rfl, by rw [if_neg (fun z => (D.mp z).elim q (fun w => q1 w.1))]⟩, fun q1 => ⟨fun q2 => ⟨rfl, ?_⟩, fun q2 => ⟨rfl, ?_⟩⟩⟩
        · rw [if_neg (fun z => (D.mp z).elim q (fun w => nI_ge w.2 (by omega) q2))]
        · rw [nI_leI (by omega) (by omega)] at q2
          rw [if_pos (D.mpr (Or.inr ⟨q1, by omega⟩))]
  have L : ∀ m j, j + m = n → post (fnd (fun j => cnd tau d j && decide (nI (ncn (fun i => sq num i d F) tau d j n) = x)) m j) sm → wp_Mo_nearest_27 post kont (m + 1) sm (nI d) x (nI j) := by
    intro m
    induction m with
    | zero =>
      intro j hj hp
      have e : j = n := by omega
      subst e
      exact ⟨fun _ => hkont hp, fun q => absurd (by rw [h04]; exact Int32.le_refl _) q⟩
    | succ m ih =>
      intro j hj hp
      unfold fnd at hp
      refine ⟨fun q => absurd q (by rw [h04]; exact nI_ge (by omega) (by omega)), fun _ => ⟨fun q => absurd h00 q, fun _ => ⟨n + 1, I _ j (by omega) (mx_cnd hm hd (by omega) ?_) n 0 (by omega)⟩⟩⟩
      by_cases c : cnd tau d j = true
      · rw [if_pos c]
        refine ⟨fun z => absurd z (by decide), fun _ => ⟨fun q => ?_, fun q => ?_⟩⟩
        · rw [if_neg (fun z => q (of_decide_eq_true (Bool.and_eq_true_iff.mp z).2))] at hp
          rw [nI_1]; exact ih (j + 1) (by omega) hp
        · rw [if_pos (Bool.and_eq_true_iff.mpr ⟨c, decide_eq_true q⟩)] at hp
          exact hp
      · rw [if_neg c]
        refine ⟨fun _ => ?_, fun z => absurd rfl z⟩
        rw [if_neg (fun z => c (Bool.and_eq_true_iff.mp z).1)] at hp
        rw [nI_1]; exact ih (j + 1) (by omega) hp
  exact ⟨n + 1, L n 0 (by omega) hp⟩
end NE
theorem p_15 (K F : Nat) : lOwe wc_15 K F (Rl K F) := by
  intro st f sm a1 a2 a3 a4 hR
  obtain ⟨n, b, h, num, wid, ord, tau, gx, gy, gr, lr, ll, ls, hv, hk, hm⟩ := id hR
  obtain ⟨v0, v1, v2, v3, v4, v5, v6, v7, v8, v9, v10, v11⟩ := id hv
  have hn : sm 0 4 = nI n := hm.2.1.1
  have X : ∀ (t : Int32), ¬ t ≤ 0 → ∃ N, wp_Mo_nearest_27 (fun r3 u4 => wp_Mo_thrown u4 (fun r5 u6 => r5 = t ∧ (t = 0 → (f (Int32.toNatClampNeg 0)) = r3.toInt64) ∧ Rl K F st u6)) (fun st31 y32 y33 y34 => (((st31 0 0) ≤ 0 → wp_Mo_thrown st31 (fun r5 u6 => r5 = t ∧ (t = 0 → (f (Int32.toNatClampNeg 0)) = (-1 : Int32).toInt64) ∧ Rl K F st u6)) ∧ (¬ (st31 0 0) ≤ 0 → wp_Mo_thrown st31 (fun r5 u6 => r5 = t ∧ (t = 0 → (f (Int32.toNatClampNeg 0)) = (0 : Int32).toInt64) ∧ Rl K F st u6)))) N (jq sm 0 0 t) a1 a2 (0 : Int32) := by
    intro t ht
    have t0 : ¬ t = 0 := fun e => ht (by rw [e]; exact Int32.le_refl _)
    refine ⟨1, fun _ => th_p ht (fin_x t0 hR), fun _ => ⟨fun _ => th_p ht (fin_x t0 hR), fun q => absurd q (by rw [jq_s]; exact t0)⟩⟩
  unfold wc_15 wp_Lw_nearest wp_KT_nearest
  rcases ix_cases a1 (n := n) (by omega) with hx | ⟨d, hd, rfl⟩
  · refine nx_bad hk.2.1.2 hx (Or.inl ⟨rfl, ?_⟩)
    show wp_Mo_nearest sm a1 a2 _
    unfold wp_Mo_nearest
    refine me_0 hn (by omega) hx ⟨fun v => v = 1, ?_, fun q => absurd rfl q, fun _ => rfl⟩
    rintro v rfl
    exact X 1 (by decide)
  · refine nx_ok hk.2.1.2 hd (by omega) ⟨fun hx => kx_near hv hk (by omega) ?_, fun hx => Or.inr ⟨rfl, ?_⟩⟩
    · show wp_Mo_nearest sm (nI d) a2 _
      unfold wp_Mo_nearest
      refine me_1 hn hd (by omega) ⟨fun v => v = 0, ?_, fun _ => ⟨fun _ => rfl, fun q => absurd hx q⟩, fun q => absurd q (by decide)⟩
      rintro v rfl
      exact mx_near hv (mD_thr 0 hm) jq_s (by omega) (fun z => th_0 z) (fin_v (f := f) (Rl_thr 0 hR) jq_s)
    · show wp_Mo_nearest sm (nI d) a2 _
      unfold wp_Mo_nearest
      refine me_1 hn hd (by omega) ⟨fun v => v = 2, ?_, fun _ => ⟨fun q => absurd q hx, fun _ => rfl⟩, fun q => absurd q (by decide)⟩
      rintro v rfl
      exact X 2 (by decide)
