/-! ===== best ===== -/
def bf (R : Nat → Nat) (i j : Nat) : Bool := decide (R j < R i ∨ (R i = R j ∧ i < j))
def bef (R : Nat → Nat) (j : Nat) (m : Nat) : Nat := cn (fun i => bf R i j) m
theorem cn_mono {p q : Nat → Bool} {n : Nat} (h : ∀ x, x < n → p x = true → q x = true) : cn p n ≤ cn q n := by
  induction n with
  | zero => exact Nat.le_refl _
  | succ n ih =>
    have I := ih (fun x hx => h x (by omega))
    by_cases a : p n = true
    · rw [cn_t a, cn_t (h n (by omega) a)]; omega
    · rw [cn_f a]
      by_cases c : q n = true
      · rw [cn_t c]; omega
      · rw [cn_f c]; exact I
theorem cn_strict {p q : Nat → Bool} {n y : Nat} (h : ∀ x, x < n → p x = true → q x = true) (hy : y < n) (h1 : q y = true) (h2 : ¬ p y = true) : cn p n < cn q n := by
  induction n with
  | zero => omega
  | succ n ih =>
    have I := cn_mono (n := n) (fun x hx => h x (by omega))
    by_cases e : y = n
    · subst e
      rw [cn_t h1, cn_f h2]; omega
    · have J := ih (fun x hx => h x (by omega)) (by omega)
      by_cases a : p n = true
      · rw [cn_t a, cn_t (h n (by omega) a)]; omega
      · rw [cn_f a]
        by_cases c : q n = true
        · rw [cn_t c]; omega
        · rw [cn_f c]; exact J
theorem cn_all (n : Nat) : cn (fun _ => true) n = n := by
  induction n with
  | zero => rfl
  | succ n ih => rw [cn_t rfl, ih]
theorem bef_lt (R : Nat → Nat) {F j : Nat} (hj : j < F) : bef R j F < F := by
  have := cn_strict (p := fun i => bf R i j) (q := fun _ => true) (n := F) (y := j) (fun _ _ _ => rfl) hj rfl (by unfold bf; simp)
  rw [cn_all] at this
  exact this
theorem bef_ne (R : Nat → Nat) {F i j : Nat} (hi : i < F) (hj : j < F) (e : bef R i F = bef R j F) : i = j := by
  have S : ∀ i j, i < F → bf R i j = true → bef R i F < bef R j F := by
    intro i j hi hb
    refine cn_strict (y := i) (fun x _ hx => ?_) hi hb (by unfold bf; simp)
    unfold bf at hb hx ⊢
    rw [decide_eq_true_eq] at hb hx ⊢
    omega
  by_cases q : i = j
  · exact q
  · by_cases q1 : bf R i j = true
    · have := S i j hi q1; omega
    · have q2 : bf R j i = true := by
        unfold bf at q1 ⊢
        rw [decide_eq_true_eq] at q1 ⊢
        omega
      have := S j i hj q2
      omega
section BE
variable {K F n b h : Nat} {num : Nat → Nat → Nat} {wid ord : Nat → Nat} {tau gx gy : Nat → Int32} {gr : Nat → Nat → Nat} {lr : Nat → Nat} {ll ls : Nat → Nat → Nat} {st sm : jS}
theorem kx_bef {R : Nat → Nat} {j : Nat} {post : Int32 → jS → Prop} (hF : F ≤ 11) (h10 : st 1 0 = nI F) (hR : ∀ i, i < F → st 11 i = nI (R i)) (hb : ∀ i, R i ≤ 24) (hj : j < F) (hp : post (nI (bef R j F)) st) : wp_Te_countBefore K F st (nI j) post := by
  have L : ∀ m i, i + m = F → wp_Te_countBefore_4 K F post (m + 1) st (nI j) (nI (bef R j i)) (nI i) := by
    intro m
    induction m with
    | zero =>
      intro i hi
      have e : i = F := by omega
      subst e
      exact ⟨fun _ => hp, fun q => absurd (by rw [h10]; exact Int32.le_refl _) q⟩
    | succ m ih =>
      intro i hi
      have I := ih (i + 1) (by omega)
      unfold bef at I
      have bi := hb i
      have bj := hb j
      have v1 : vp_in (nI i) F := vp_in_nI (by omega) (by omega)
      have v2 : vp_in (nI j) F := vp_in_nI (by omega) (by omega)
      have Y : bf R i j = true → wp_Te_countBefore_4 K F post (m + 1) st (nI j) (nI (bef R j i) + 1) (nI i + 1) := by
        intro q
        rw [cn_t (p := fun i => bf R i j) q] at I
        rw [nI_1, nI_1]; exact I
      have N : ¬ bf R i j = true → wp_Te_countBefore_4 K F post (m + 1) st (nI j) (nI (bef R j i)) (nI i + 1) := by
        intro q
        rw [cn_f (p := fun i => bf R i j) q] at I
        rw [nI_1]; exact I
      unfold bf at Y N
      rw [decide_eq_true_eq] at Y N
      refine ⟨fun q => absurd q (by rw [h10]; exact nI_ge (by omega) (by omega)), fun _ => ?_⟩
      rw [nI_clamp (show i < 2 ^ 31 by omega), nI_clamp (show j < 2 ^ 31 by omega), hR i (by omega), hR j hj, nI_ltI (a := R j) (b := R i) (by omega) (by omega), nI_eq (a := R i) (b := R j) (by omega) (by omega), nI_leI (a := j) (b := i) (by omega) (by omega)]
      refine ⟨v1, v2, fun q => ⟨v1, v2, fun q1 => Y (by omega), fun q1 => ⟨fun _ => N (by omega), fun z => absurd rfl z⟩⟩, fun q => ⟨fun q2 => ⟨v1, v2, fun q1 => Y (by omega), fun q1 => ⟨fun _ => N (by omega), fun z => absurd rfl z⟩⟩, fun q2 => ⟨v1, v2, fun q1 => Y (by omega), fun q1 => ⟨fun z => absurd z (by decide), fun _ => Y (by omega)⟩⟩⟩⟩
  exact ⟨F + 1, L F 0 (by omega)⟩
theorem rgt_le (f : Nat) : rgt K b num wid ord tau f n n ≤ n := cn_le _ _
theorem kx_best {r P : Nat} {post : Int32 → jS → Prop} (hv : vD K F n b h num wid ord tau gx gy gr lr ll ls) (hk : kD K F n b h num wid ord tau gx gy gr lr ll ls st) (hP : P < F) (hr : bef (fun f => rgt K b num wid ord tau f n n) P F = r) (hp : ∀ st', (∀ a, a ≠ 10 → a ≠ 11 → st' a = st a) → post (nI P) st') : wp_Te_featureAt K F st (nI r) post := by
  have hF := hv.2.1.2
  have hn := hv.2.2.1
  have Q : ∀ st', (∀ a, a ≠ 10 → a ≠ 11 → st' a = st a) → (∀ i, i < F → st' 11 i = nI (rgt K b num wid ord tau i n n)) → ∀ m j, j + m = P → wp_Te_featureAt_32 K F post (m + 1) st' (nI r) (nI j) := by
    intro st' hs hR m
    have h10 : st' 1 0 = nI F := by rw [hs 1 (by omega) (by omega)]; exact hk.2.1.1
    induction m with
    | zero =>
      intro j hj
      have e : j = P := by omega
      subst e
      refine ⟨fun q => absurd q (by rw [h10]; exact nI_ge hP (by omega)), fun _ => kx_bef hF h10 hR (fun i => Nat.le_trans (rgt_le i) hn) hP ?_⟩
      rw [hr]
      exact ⟨fun q => absurd rfl q, fun _ => hp st' hs⟩
    | succ m ih =>
      intro j hj
      refine ⟨fun q => absurd q (by rw [h10]; exact nI_ge (by omega) (by omega)), fun _ => kx_bef hF h10 hR (fun i => Nat.le_trans (rgt_le i) hn) (by omega) ⟨fun _ => ?_, fun q => ?_⟩⟩
      · rw [nI_1]; exact ih (j + 1) (by omega)
      · have b1 := bef_lt (fun f => rgt K b num wid ord tau f n n) (F := F) (j := j) (by omega)
        have b2 := bef_lt (fun f => rgt K b num wid ord tau f n n) (F := F) (j := P) (by omega)
        have := (nI_eq (by omega) (by omega)).mp q
        have := bef_ne (fun f => rgt K b num wid ord tau f n n) (F := F) (i := j) (j := P) (by omega) hP (by omega)
        omega
  have L : ∀ m j st', j + m = F → (∀ a, a ≠ 10 → a ≠ 11 → st' a = st a) → (∀ i, i < j → st' 11 i = nI (rgt K b num wid ord tau i n n)) → wp_Te_featureAt_2 K F post (m + 1) st' (nI r) (nI j) := by
    intro m
    induction m with
    | zero =>
      intro j st' hj hs hR
      have e : j = F := by omega
      subst e
      refine ⟨fun _ => ⟨P + 1, Q st' hs hR P 0 (by omega)⟩, fun q => absurd (by rw [hs 1 (by omega) (by omega), hk.2.1.1]; exact Int32.le_refl _) q⟩
    | succ m ih =>
      intro j st' hj hs hR
      have hk' := kD_congr (fun a _ h1 h2 => hs a h1 h2) hk
      refine ⟨fun q => absurd q (by rw [hk'.2.1.1]; exact nI_ge (by omega) (by omega)), fun _ => kx_right hv hk' (by omega) fun st2 hs2 => ⟨vp_in_nI (by omega) (by omega), ?_⟩⟩
      rw [nI_clamp (by omega), nI_1]
      refine ih (j + 1) _ (by omega) (fun a h1 h2 => ?_) (fun i hi => ?_)
      · rw [← hs a h1 h2, ← hs2 a h1]; exact funext fun i => jq_o h2
      · rw [jq_r]
        by_cases e : i = j
        · rw [if_pos ⟨rfl, e⟩, e]
        · rw [if_neg (fun z => e z.2), hs2 11 (by omega)]; exact hR i (by omega)
  exact ⟨F + 1, L F 0 st (by omega) (fun _ _ _ => rfl) (fun i hi => absurd hi (by omega))⟩
theorem mx_best {r P : Nat} {post : Int32 → jS → Prop} (hv : vD K F n b h num wid ord tau gx gy gr lr ll ls) (hm : mD K F n b h num wid ord tau gx gy gr lr ll ls sm) (h00 : sm 0 0 = 0) (hP : P < F) (hr : bef (fun f => rgt K b num wid ord tau f n n) P F = r) (hp : post (nI P) sm) : ∃ N, wp_Mo_best_19 post N sm (nI r) (0 : Int32) := by
  have hF := hv.2.1.2
  have hn := hv.2.2.1
  have h02 : sm 0 2 = nI F := hm.1.2
  have I : ∀ (kont : jS → Int32 → Int32 → Int32 → Int32 → Prop) (j : Nat), j < F → kont sm (nI r) (nI j) (nI (bef (fun f => rgt K b num wid ord tau f n n) j F)) (nI F) → ∀ m i, i + m = F → wp_Mo_best_39 post kont (m + 1) sm (nI r) (nI j) (nI (bef (fun f => rgt K b num wid ord tau f n n) j i)) (nI i) := by
    intro kont j hj hkont m
    induction m with
    | zero =>
      intro i hi
      have e : i = F := by omega
      subst e
      exact ⟨fun _ => hkont, fun q => absurd (by rw [h02]; exact Int32.le_refl _) q⟩
    | succ m ih =>
      intro i hi
      have I := ih (i + 1) (by omega)
      unfold bef at I
      have bi := rgt_le (K := K) (b := b) (num := num) (wid := wid) (ord := ord) (tau := tau) (n := n) i
      have bj := rgt_le (K := K) (b := b) (num := num) (wid := wid) (ord := ord) (tau := tau) (n := n) j
      refine ⟨fun q => absurd q (by rw [h02]; exact nI_ge (by omega) (by omega)), fun _ => ?_⟩
      refine mx_right hv hm (by omega) (mx_right hv hm hj ⟨fun s v => s = sm ∧ v = (if bf (fun f => rgt K b num wid ord tau f n n) i j = true then 1 else 0), ?_, ?_⟩)
      · rintro s v ⟨rfl, rfl⟩
        by_cases q : bf (fun f => rgt K b num wid ord tau f n n) i j = true
        · rw [if_pos q]
          rw [cn_t (p := fun i => bf (fun f => rgt K b num wid ord tau f n n) i j) q] at I
          refine ⟨fun z => absurd z (by decide), fun _ => ?_⟩
          rw [nI_1, nI_1]; exact I
        · rw [if_neg q]
          rw [cn_f (p := fun i => bf (fun f => rgt K b num wid ord tau f n n) i j) q] at I
          refine ⟨fun _ => ?_, fun z => absurd rfl z⟩
          rw [nI_1]; exact I
      · rw [nI_ltI (by omega) (by omega)]
        have D : bf (fun f => rgt K b num wid ord tau f n n) i j = true ↔ (rgt K b num wid ord tau j n n < rgt K b num wid ord tau i n n ∨ (rgt K b num wid ord tau i n n = rgt K b num wid ord tau j n n ∧ i < j)) := by
          unfold bf; rw [decide_eq_true_eq]
        refine ⟨fun q => ⟨rfl, by rw [if_pos (D.mpr (Or.inl q))]⟩, fun q => mx_right hv hm (by omega) (mx_right hv hm hj ?_)⟩
        rw [nI_eq (by omega) (by omega), nI_leI (by omega) (by omega)]
        exact ⟨fun q1 => ⟨rfl, by rw [if_neg (fun z => by have := D.mp z; omega)]⟩, fun q1 => ⟨fun q2 => ⟨rfl, by rw [if_neg (fun z => by have := D.mp z; omega)]⟩, fun q2 => ⟨rfl, by rw [if_pos (D.mpr (by omega))]⟩⟩⟩
  have L : ∀ m j, j + m = P → wp_Mo_best_19 post (m + 1) sm (nI r) (nI j) := by
    intro m
    induction m with
    | zero =>
      intro j hj
      have e : j = P := by omega
      subst e
      refine ⟨fun q => absurd q (by rw [h02]; exact nI_ge (by omega) (by omega)), fun _ => ⟨fun q => absurd h00 q, fun _ => ⟨F + 1, I _ j hP ?_ F 0 (by omega)⟩⟩⟩
      rw [hr]
      exact ⟨fun q => absurd rfl q, fun _ => hp⟩
    | succ m ih =>
      intro j hj
      refine ⟨fun q => absurd q (by rw [h02]; exact nI_ge (by omega) (by omega)), fun _ => ⟨fun q => absurd h00 q, fun _ => ⟨F + 1, I _ j (by omega) ⟨fun _ => ?_, fun q => ?_⟩ F 0 (by omega)⟩⟩⟩
      · rw [nI_1]; exact ih (j + 1) (by omega)
      · have b1 := bef_lt (fun f => rgt K b num wid ord tau f n n) (F := F) (j := j) (by omega)
        have b2 := bef_lt (fun f => rgt K b num wid ord tau f n n) (F := F) (j := P) (by omega)
        have := (nI_eq (by omega) (by omega)).mp q
        have := bef_ne (fun f => rgt K b num wid ord tau f n n) (F := F) (i := j) (j := P) (by omega) hP (by omega)
        omega
  exact ⟨P + 1, L P 0 (by omega)⟩
end BE
theorem p_11 (K F : Nat) : lOwe wc_11 K F (Rl K F) := by
  intro st f sm a1 a2 a3 a4 hR
  obtain ⟨n, b, h, num, wid, ord, tau, gx, gy, gr, lr, ll, ls, hv, hk, hm⟩ := id hR
  obtain ⟨v0, v1, v2, v3, v4, v5, v6, v7, v8, v9, v10, v11⟩ := id hv
  have hF : sm 0 2 = nI F := hm.1.2
  unfold wc_11 wp_Lw_best wp_KT_best
  rcases ix_cases a1 (n := F) (by omega) with hx | ⟨r, hr, rfl⟩
  · refine nx_bad hk.1.2 hx ⟨rfl, ?_⟩
    show wp_Mo_best sm a1 _
    unfold wp_Mo_best
    refine mf_0 hF (by omega) hx ⟨fun v => v = 1, ?_, fun q => absurd rfl q, fun _ => rfl⟩
    rintro v rfl
    refine ⟨1, fun q => ?_, fun _ => ⟨fun _ => fin_x (by decide) hR, fun q => absurd q (by rw [jq_s]; decide)⟩⟩
    rw [show jq sm 0 0 1 0 2 = nI F from (mD_thr 1 hm).1.2] at q
    exact absurd q (nI_ge (a := 0) (by omega) (by omega))
  · obtain ⟨P, hP, e⟩ := pgn F (fun j => bef (fun f => rgt K b num wid ord tau f n n) j F) (fun j hj => bef_lt _ hj) (fun i j hi hj e => bef_ne _ hi hj e) r hr
    refine nx_ok hk.1.2 hr (by omega) (kx_best hv hk hP e fun st' hs => ?_)
    show wp_Mo_best sm (nI r) _
    unfold wp_Mo_best
    refine mf_1 hF hr (by omega) ⟨fun v => v = 0, ?_, fun _ => rfl, fun q => absurd q (by decide)⟩
    rintro v rfl
    exact mx_best hv (mD_thr 0 hm) jq_s hP e (fin_v (f := f) (Rl_thr 0 (Rl_k (fun a _ h1 h2 => hs a h1 h2) hR)) jq_s)
