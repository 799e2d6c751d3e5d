/-! ===== votes, and what they tell ===== -/
/-- in how many of m features from lo both lie in one cell -/
def sc (num : Nat → Nat → Nat) (wid : Nat → Nat) (d i lo : Nat) (m : Nat) : Nat := cn (fun j => num i (lo + j) / wid (lo + j) == num d (lo + j) / wid (lo + j)) m
/-- the votes of the first i examples for kind k, of example d -/
def vt (num : Nat → Nat → Nat) (wid : Nat → Nat) (tau : Nat → Int32) (d k lo hi : Nat) : Nat → Nat
  | 0 => 0
  | i + 1 => if ¬ i = d ∧ tau i = nI k then vt num wid tau d k lo hi i + sc num wid d i lo (hi - lo) else vt num wid tau d k lo hi i
theorem vt_le (num : Nat → Nat → Nat) (wid : Nat → Nat) (tau : Nat → Int32) (d k lo hi : Nat) (hh : hi - lo ≤ 11) (i : Nat) : vt num wid tau d k lo hi i ≤ 11 * i := by
  induction i with
  | zero => exact Nat.le_refl _
  | succ i ih =>
    have := cn_le (fun j => num i (lo + j) / wid (lo + j) == num d (lo + j) / wid (lo + j)) (hi - lo)
    unfold vt sc
    split <;> omega
theorem vt_y {num : Nat → Nat → Nat} {wid : Nat → Nat} {tau : Nat → Int32} {d k lo hi i : Nat} (h1 : ¬ i = d) (h2 : tau i = nI k) : vt num wid tau d k lo hi (i + 1) = vt num wid tau d k lo hi i + sc num wid d i lo (hi - lo) := if_pos ⟨h1, h2⟩
theorem vt_n {num : Nat → Nat → Nat} {wid : Nat → Nat} {tau : Nat → Int32} {d k lo hi i : Nat} (h : ¬ (¬ i = d ∧ tau i = nI k)) : vt num wid tau d k lo hi (i + 1) = vt num wid tau d k lo hi i := if_neg h
section VT
variable {K F n b h : Nat} {num : Nat → Nat → Nat} {wid ord : Nat → Nat} {tau gx gy : Nat → Int32} {gr : Nat → Nat → Nat} {lr : Nat → Nat} {ll ls : Nat → Nat → Nat} {st sm : jS}
theorem ce_le (hv : vD K F n b h num wid ord tau gx gy gr lr ll ls) (e f : Nat) : num e f / wid f < 2 ^ 31 := by
  have h1 := hv.2.2.2.2.2.1 e f
  have h2 := Nat.div_le_self (num e f) (wid f)
  omega
theorem kx_same {d i lo hi : Nat} {post : Int32 → jS → Prop} (hv : vD K F n b h num wid ord tau gx gy gr lr ll ls) (hk : kD K F n b h num wid ord tau gx gy gr lr ll ls st) (hd : d < 24) (hi' : i < 24) (hl : lo ≤ hi) (hF : hi ≤ F) (hp : post (nI (sc num wid d i lo (hi - lo))) st) : wp_Ex_sameCells K F st (nI d) (nI i) (nI lo) (nI hi) post := by
  have hF11 := hv.2.1.2
  have L : ∀ m j, lo + j + m = hi → wp_Ex_sameCells_6 K F post (m + 1) st (nI d) (nI i) (nI lo) (nI hi) (nI (sc num wid d i lo j)) (nI (lo + j)) := by
    intro m
    induction m with
    | zero =>
      intro j hj
      have e : j = hi - lo := by omega
      subst e
      exact ⟨fun _ => hp, fun q => absurd (nI_le (by omega) (by omega)) q⟩
    | succ m ih =>
      intro j hj
      refine ⟨fun q => absurd q (nI_ge (by omega) (by omega)), fun _ => kx_cell hv hk hd (by omega) (kx_cell hv hk hi' (by omega) ⟨fun q => ?_, fun q => ?_⟩)⟩
      · have := ih (j + 1) (by omega)
        unfold sc at this
        rw [cn_f (by intro z; exact q (congrArg nI (eq_of_beq z).symm)), ← Nat.add_assoc] at this
        rw [nI_1]; exact this
      · have := ih (j + 1) (by omega)
        unfold sc at this
        rw [cn_t (by rw [(nI_eq (ce_le hv _ _) (ce_le hv _ _)).mp q]; exact beq_self_eq_true _), ← Nat.add_assoc] at this
        rw [nI_1, nI_1]; exact this
  have := L (hi - lo) 0 (by omega)
  exact ⟨_, this⟩
theorem mx_votes {d k lo hi : Nat} {post : Int32 → jS → Prop} (hv : vD K F n b h num wid ord tau gx gy gr lr ll ls) (hm : mD K F n b h num wid ord tau gx gy gr lr ll ls sm) (hd : d < 24) (hl : lo ≤ hi) (hF : hi ≤ F) (hp : post (nI (vt num wid tau d k lo hi n)) sm) : wp_Mo_votesOf sm (nI d) (nI k) (nI lo) (nI hi) post := by
  have hF11 := hv.2.1.2
  have hn := hv.2.2.1
  have h04 : sm 0 4 = nI n := hm.2.1.1
  have I : ∀ (kont : jS → Int32 → Int32 → Int32 → Int32 → Int32 → Int32 → Int32 → Prop) (i base : Nat), i < 24 → ¬ i = d → tau i = nI k → kont sm (nI d) (nI k) (nI lo) (nI hi) (nI (base + sc num wid d i lo (hi - lo))) (nI i) (nI hi) → ∀ m j, lo + j + m = hi → wp_Mo_votesOf_18 post kont (m + 1) sm (nI d) (nI k) (nI lo) (nI hi) (nI (base + sc num wid d i lo j)) (nI i) (nI (lo + j)) := by
    intro kont i base hi' hne htau hkont m
    induction m with
    | zero =>
      intro j hj
      have e : j = hi - lo := by omega
      subst e
      refine ⟨fun _ => ?_, fun q => absurd (nI_le (by omega) (by omega)) q⟩
      have e2 : lo + (hi - lo) = hi := by omega
      rw [e2]; exact hkont
    | succ m ih =>
      intro j hj
      refine ⟨fun q => absurd q (nI_ge (by omega) (by omega)), fun _ => ⟨fun q => absurd ((nI_eq (by omega) (by omega)).mp q) hne, fun _ => ⟨vp_in_nI hi' (by omega), ?_⟩⟩⟩
      rw [nI_clamp (by omega), hm.2.2.1 i hi']
      refine ⟨fun q => absurd htau q, fun _ => mx_cell hv hm hi' (by omega) (mx_cell hv hm hd (by omega) ⟨fun q => ?_, fun q => ?_⟩)⟩
      · have := ih (j + 1) (by omega)
        unfold sc at this
        rw [cn_f (by intro z; exact q (congrArg nI (eq_of_beq z))), ← Nat.add_assoc] at this
        rw [nI_1]; exact this
      · have := ih (j + 1) (by omega)
        unfold sc at this
        rw [cn_t (by rw [(nI_eq (ce_le hv _ _) (ce_le hv _ _)).mp q]; exact beq_self_eq_true _), ← Nat.add_assoc, ← Nat.add_assoc] at this
        rw [nI_1, nI_1]; exact this
  have L : ∀ m i, i + m = n → wp_Mo_votesOf_6 post (m + 1) sm (nI d) (nI k) (nI lo) (nI hi) (nI (vt num wid tau d k lo hi i)) (nI i) := by
    intro m
    induction m with
    | zero =>
      intro i hi
      have e : i = n := by omega
      subst e
      exact ⟨fun _ => hp, fun q => absurd (by rw [h04]; exact Int32.le_refl _) q⟩
    | succ m ih =>
      intro i hi'
      refine ⟨fun q => absurd q (by rw [h04]; exact nI_ge (by omega) (by omega)), fun _ => ?_⟩
      by_cases q : ¬ i = d ∧ tau i = nI k
      · refine ⟨_, I _ i (vt num wid tau d k lo hi i) (by omega) q.1 q.2 ?_ (hi - lo) 0 (by omega)⟩
        have := ih (i + 1) (by omega)
        rw [vt_y q.1 q.2] at this
        rw [nI_1]; exact this
      · refine ⟨1, ?_⟩
        have := ih (i + 1) (by omega)
        rw [vt_n q, ← nI_1] at this
        refine ⟨fun _ => this, fun _ => ⟨fun _ => this, fun q2 => ⟨vp_in_nI (by omega) (by omega), ?_⟩⟩⟩
        rw [nI_clamp (by omega), hm.2.2.1 i (by omega)]
        exact ⟨fun _ => this, fun q3 => absurd ⟨fun z => q2 (congrArg nI z), q3⟩ q⟩
  exact ⟨n + 1, L n 0 (by omega)⟩
theorem kx_take {d lo hi : Nat} {post : jS → Prop} (hv : vD K F n b h num wid ord tau gx gy gr lr ll ls) (hk : kD K F n b h num wid ord tau gx gy gr lr ll ls st) (hd : d < 24) (hl : lo ≤ hi) (hF : hi ≤ F) (hp : ∀ st', (∀ a, a ≠ 10 → st' a = st a) → (∀ k, k < K → st' 10 k = nI (vt num wid tau d k lo hi n)) → post st') : wp_Te_takeVotes K F st (nI d) (nI lo) (nI hi) post := by
  have hF11 := hv.2.1.2
  have hn := hv.2.2.1
  have hK := hv.1.2
  have L : ∀ m i st', i + m = n → (∀ a, a ≠ 10 → st' a = st a) → (∀ k, k < K → st' 10 k = nI (vt num wid tau d k lo hi i)) → wp_Te_takeVotes_29 K F post (m + 1) st' (nI d) (nI lo) (nI hi) (nI i) := by
    intro m
    induction m with
    | zero =>
      intro i st' hi hs ht
      have e : i = n := by omega
      subst e
      exact ⟨fun _ => hp st' hs ht, fun q => absurd (by rw [hs 1 (by omega), hk.2.1.2]; exact Int32.le_refl _) q⟩
    | succ m ih =>
      intro i st' hi' hs ht
      have hk' := kD_congr (fun a _ h10 _ => hs a h10) hk
      refine ⟨fun q => absurd q (by rw [hk'.2.1.2]; exact nI_ge (by omega) (by omega)), fun _ => ⟨vp_in_nI (by omega) (by omega), fun q => ?_, fun q => ?_⟩⟩
      · have e : i = d := (nI_eq (by omega) (by omega)).mp q
        rw [nI_1]
        exact ih (i + 1) st' (by omega) hs (fun k hk9 => by rw [vt_n (fun z => z.1 e)]; exact ht k hk9)
      · have e : ¬ i = d := fun z => q (congrArg nI z)
        rw [nI_clamp (by omega), hk'.2.2.2.2.1 i (by omega)]
        refine ⟨fun q => ?_, fun q => ?_⟩
        · rw [nI_1]
          exact ih (i + 1) st' (by omega) hs (fun k hk9 => by rw [vt_n (fun z => nI_nm1 (by omega) (z.2.symm.trans q))]; exact ht k hk9)
        · obtain ⟨k0, hk0, e0⟩ := (hv.2.2.2.2.2.2.2.1 i).resolve_left q
          rw [e0, nI_clamp (by omega), ht k0 hk0]
          refine ⟨vp_in_nI hk0 (by omega), kx_same hv hk' hd (by omega) hl hF ⟨vp_in_nI hk0 (by omega), ?_⟩⟩
          rw [nI_add, nI_1]
          refine ih (i + 1) _ (by omega) (fun a ha => ?_) (fun k hk9 => ?_)
          · rw [← hs a ha]; exact funext fun j => jq_o ha
          · rw [jq_r]
            by_cases qk : k = k0
            · rw [if_pos ⟨rfl, qk⟩, qk, vt_y e e0]
            · rw [if_neg (fun z => qk z.2), vt_n (fun z => qk ((nI_eq (by omega) (by omega)).mp (z.2.symm.trans e0)))]
              exact ht k hk9
  have Z : ∀ m p st', p + m = K → (∀ a, a ≠ 10 → st' a = st a) → (∀ k, k < p → st' 10 k = 0) → wp_Te_takeVotes_3 K F post (m + 1) st' (nI d) (nI lo) (nI hi) (nI p) := by
    intro m
    induction m with
    | zero =>
      intro p st' hp' hs ht
      have e : p = K := by omega
      subst e
      refine ⟨fun _ => ⟨n + 1, L n 0 st' (by omega) hs ht⟩, fun q => absurd (by rw [hs 2 (by omega), hk.2.2.1.1]; exact Int32.le_refl _) q⟩
    | succ m ih =>
      intro p st' hp' hs ht
      refine ⟨fun q => absurd q (by rw [hs 2 (by omega), hk.2.2.1.1]; exact nI_ge (by omega) (by omega)), fun _ => ⟨vp_in_nI (by omega) (by omega), ?_⟩⟩
      rw [nI_clamp (by omega), nI_1]
      refine ih (p + 1) _ (by omega) (fun a ha => ?_) (fun k hk9 => ?_)
      · rw [← hs a ha]; exact funext fun j => jq_o ha
      · rw [jq_r]
        by_cases qk : k = p
        · rw [if_pos ⟨rfl, qk⟩]
        · rw [if_neg (fun z => qk z.2)]; exact ht k (by omega)
  exact ⟨K + 1, Z K 0 st (by omega) (fun a _ => rfl) (fun k hk => absurd hk (by omega))⟩
/-- the place of the order's first greatest among the first p + 1 -/
def bl (V : Nat → Nat) : Nat → Nat
  | 0 => 0
  | p + 1 => if V (p + 1) ≤ V (bl V p) then bl V p else p + 1
theorem bl_le (V : Nat → Nat) (p : Nat) : bl V p ≤ p := by
  induction p with
  | zero => exact Nat.le_refl _
  | succ p ih => unfold bl; split <;> omega
/-- the votes of the kind in place p -/
def vp9 (num : Nat → Nat → Nat) (wid ord : Nat → Nat) (tau : Nat → Int32) (d lo hi n : Nat) (p : Nat) : Nat := vt num wid tau d (ord p) lo hi n
def tld (K b : Nat) (num : Nat → Nat → Nat) (wid ord : Nat → Nat) (tau : Nat → Int32) (d lo hi n : Nat) : Int32 :=
  if b ≤ vp9 num wid ord tau d lo hi n (bl (vp9 num wid ord tau d lo hi n) (K - 1)) then nI (ord (bl (vp9 num wid ord tau d lo hi n) (K - 1))) else -1
theorem vp9_le (hv : vD K F n b h num wid ord tau gx gy gr lr ll ls) {d lo hi : Nat} (hF : hi ≤ F) (p : Nat) : vp9 num wid ord tau d lo hi n p < 2 ^ 31 := by
  have hF11 := hv.2.1.2
  have hn := hv.2.2.1
  have := vt_le num wid tau d (ord p) lo hi (by omega) n
  unfold vp9
  omega
theorem kx_told {d lo hi : Nat} {post : Int32 → jS → Prop} (hv : vD K F n b h num wid ord tau gx gy gr lr ll ls) (hk : kD K F n b h num wid ord tau gx gy gr lr ll ls st) (hd : d < 24) (hl : lo ≤ hi) (hF : hi ≤ F) (hp : ∀ st', (∀ a, a ≠ 10 → st' a = st a) → post (tld K b num wid ord tau d lo hi n) st') : wp_Te_toldBy K F st (nI d) (nI lo) (nI hi) post := by
  have hK := hv.1
  have hb := hv.2.2.2.1
  refine kx_take hv hk hd hl hF fun st' hs ht => ?_
  have hk' := kD_congr (fun a _ h10 _ => hs a h10) hk
  have ho := hv.2.2.2.2.2.2.2.2.1.1
  have V : ∀ p, p < K → st' 10 (ord p) = nI (vp9 num wid ord tau d lo hi n p) := fun p hp => ht (ord p) (ho p hp)
  have O : ∀ p, p < K → st' 9 p = nI (ord p) := hk'.2.2.2.2.2.2.2.1
  have L : ∀ m p, p + 1 + m = K → wp_Te_toldBy_18 K F post (m + 1) st' (nI d) (nI lo) (nI hi) (nI (ord (bl (vp9 num wid ord tau d lo hi n) p))) (nI (p + 1)) := by
    intro m
    induction m with
    | zero =>
      intro p hp'
      have bp := bl_le (vp9 num wid ord tau d lo hi n) p
      have e : p = K - 1 := by omega
      have ob := ho (bl (vp9 num wid ord tau d lo hi n) p) (by omega)
      refine ⟨fun _ => ⟨vp_in_nI ob (by omega), ?_⟩, fun q => absurd (by rw [hk'.2.2.1.1]; exact nI_le (by omega) (by omega)) q⟩
      have hp1 := hp st' hs
      unfold tld at hp1
      rw [← e] at hp1
      rw [nI_clamp (by omega), V _ (by omega), hk'.2.2.1.2]
      refine ⟨fun q => ?_, fun q => ?_⟩
      · rw [if_pos ((nI_leI (by omega) (vp9_le hv hF _)).mp q)] at hp1; exact hp1
      · rw [if_neg (fun z => q ((nI_leI (by omega) (vp9_le hv hF _)).mpr z))] at hp1; exact hp1
    | succ m ih =>
      intro p hp'
      have bp := bl_le (vp9 num wid ord tau d lo hi n) p
      have ob := ho (bl (vp9 num wid ord tau d lo hi n) p) (by omega)
      have op := ho (p + 1) (by omega)
      have I := ih (p + 1) (by omega)
      refine ⟨fun q => absurd q (by rw [hk'.2.2.1.1]; exact nI_ge (by omega) (by omega)), fun _ => ⟨vp_in_nI (by omega) (by omega), ?_⟩⟩
      rw [nI_clamp (show p + 1 < 2 ^ 31 by omega), O _ (by omega), nI_clamp (show ord (p + 1) < 2 ^ 31 by omega), V _ (by omega), nI_clamp (by omega), V _ (by omega), nI_1]
      refine ⟨vp_in_nI op (by omega), vp_in_nI ob (by omega), fun q => ?_, fun q => ⟨vp_in_nI (by omega) (by omega), ?_⟩⟩
      · unfold bl at I
        rw [if_pos ((nI_leI (vp9_le hv hF _) (vp9_le hv hF _)).mp q)] at I; exact I
      · unfold bl at I
        rw [if_neg (fun z => q ((nI_leI (vp9_le hv hF _) (vp9_le hv hF _)).mpr z))] at I; exact I
  refine ⟨vp_in_nI (n := 0) (by omega) (by omega), K - 1 + 1, ?_⟩
  show wp_Te_toldBy_18 K F post _ st' (nI d) (nI lo) (nI hi) (st' 9 0) 1
  rw [O 0 (by omega)]
  exact L (K - 1) 0 (by omega)
theorem mx_told {d lo hi : Nat} {post : Int32 → jS → Prop} (hv : vD K F n b h num wid ord tau gx gy gr lr ll ls) (hm : mD K F n b h num wid ord tau gx gy gr lr ll ls sm) (hd : d < 24) (hl : lo ≤ hi) (hF : hi ≤ F) (hp : post (tld K b num wid ord tau d lo hi n) sm) : wp_Mo_toldBy sm (nI d) (nI lo) (nI hi) post := by
  have hK := hv.1
  have hb := hv.2.2.2.1
  have ho := hv.2.2.2.2.2.2.2.2.1.1
  have O : ∀ p, p < K → sm 4 p = nI (ord p) := hm.2.2.2.2.2.1
  have L : ∀ m p, p + 1 + m = K → wp_Mo_toldBy_9 post (m + 1) sm (nI d) (nI lo) (nI hi) (nI (ord (bl (vp9 num wid ord tau d lo hi n) p))) (nI (vp9 num wid ord tau d lo hi n (bl (vp9 num wid ord tau d lo hi n) p))) (nI (p + 1)) := by
    intro m
    induction m with
    | zero =>
      intro p hp'
      have bp := bl_le (vp9 num wid ord tau d lo hi n) p
      have e : p = K - 1 := by omega
      refine ⟨fun _ => ?_, fun q => absurd (by rw [hm.1.1]; exact nI_le (by omega) (by omega)) q⟩
      have hp1 := hp
      unfold tld at hp1
      rw [← e] at hp1
      rw [hm.2.1.2.1]
      refine ⟨fun q => ?_, fun q => ?_⟩
      · rw [if_pos ((nI_leI (by omega) (vp9_le hv hF _)).mp q)] at hp1; exact hp1
      · rw [if_neg (fun z => q ((nI_leI (by omega) (vp9_le hv hF _)).mpr z))] at hp1; exact hp1
    | succ m ih =>
      intro p hp'
      have I := ih (p + 1) (by omega)
      refine ⟨fun q => absurd q (by rw [hm.1.1]; exact nI_ge (by omega) (by omega)), fun _ => ⟨vp_in_nI (by omega) (by omega), ?_⟩⟩
      rw [nI_clamp (show p + 1 < 2 ^ 31 by omega), O _ (by omega), nI_1]
      refine mx_votes hv hm hd hl hF ⟨fun v => v = nI (ord (bl (vp9 num wid ord tau d lo hi n) (p + 1))), ?_, fun q => ?_, fun q => ⟨vp_in_nI (by omega) (by omega), ?_⟩⟩
      · rintro v rfl
        refine ⟨fun q => ?_, fun q => ?_⟩
        · have z : vp9 num wid ord tau d lo hi n (p + 1) ≤ vp9 num wid ord tau d lo hi n (bl (vp9 num wid ord tau d lo hi n) p) := (nI_leI (vp9_le hv hF (p + 1)) (vp9_le hv hF _)).mp q
          have e : bl (vp9 num wid ord tau d lo hi n) (p + 1) = bl (vp9 num wid ord tau d lo hi n) p := if_pos z
          rw [e] at I ⊢; exact I
        · have z : ¬ vp9 num wid ord tau d lo hi n (p + 1) ≤ vp9 num wid ord tau d lo hi n (bl (vp9 num wid ord tau d lo hi n) p) := fun z => q ((nI_leI (vp9_le hv hF (p + 1)) (vp9_le hv hF _)).mpr z)
          have e : bl (vp9 num wid ord tau d lo hi n) (p + 1) = p + 1 := if_neg z
          rw [e] at I ⊢; exact I
      · have z : vp9 num wid ord tau d lo hi n (p + 1) ≤ vp9 num wid ord tau d lo hi n (bl (vp9 num wid ord tau d lo hi n) p) := (nI_leI (vp9_le hv hF (p + 1)) (vp9_le hv hF _)).mp q
        have e : bl (vp9 num wid ord tau d lo hi n) (p + 1) = bl (vp9 num wid ord tau d lo hi n) p := if_pos z
        rw [e]
      · have z : ¬ vp9 num wid ord tau d lo hi n (p + 1) ≤ vp9 num wid ord tau d lo hi n (bl (vp9 num wid ord tau d lo hi n) p) := fun z => q ((nI_leI (vp9_le hv hF (p + 1)) (vp9_le hv hF _)).mpr z)
        have e : bl (vp9 num wid ord tau d lo hi n) (p + 1) = p + 1 := if_neg z
        rw [e]; exact O (p + 1) (by omega)
  refine ⟨K - 1 + 1 + 1, ?_⟩
  refine ⟨fun q => absurd q (by rw [hm.1.1]; exact nI_ge (a := 0) (by omega) (by omega)), fun _ => ⟨vp_in_nI (n := 0) (by omega) (by omega), ?_⟩⟩
  show wp_Mo_votesOf sm (nI d) (sm 4 0) (nI lo) (nI hi) _
  rw [O 0 (by omega)]
  have neg : ∀ x : Nat, x < 2 ^ 31 → ¬ nI x ≤ (-1 : Int32) := by
    intro x hx q
    rw [Int32.le_iff_toInt_le, nI_toInt hx, show (-1 : Int32).toInt = -1 by decide] at q
    omega
  refine mx_votes hv hm hd hl hF ⟨fun v => v = nI (ord 0), ?_, fun q => absurd q (neg _ (vp9_le hv hF 0)), fun q => ⟨vp_in_nI (n := 0) (by omega) (by omega), O 0 (by omega)⟩⟩
  rintro v rfl
  exact ⟨fun q => absurd q (neg _ (vp9_le hv hF 0)), fun _ => L (K - 1) 0 (by omega)⟩
end VT
