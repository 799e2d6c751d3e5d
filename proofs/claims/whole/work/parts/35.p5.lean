/-! ===== count ===== -/
/-- how many below n -/
def cn (p : Nat → Bool) : Nat → Nat
  | 0 => 0
  | i + 1 => if p i then cn p i + 1 else cn p i
theorem cn_le (p : Nat → Bool) (i : Nat) : cn p i ≤ i := by
  induction i with
  | zero => exact Nat.le_refl _
  | succ i ih => unfold cn; split <;> omega
theorem cn_t {p : Nat → Bool} {i : Nat} (h : p i = true) : cn p (i + 1) = cn p i + 1 := if_pos h
theorem cn_f {p : Nat → Bool} {i : Nat} (h : ¬ p i = true) : cn p (i + 1) = cn p i := if_neg h
theorem cn_not (p : Nat → Bool) (i : Nat) : cn p i + cn (fun j => !p j) i = i := by
  induction i with
  | zero => rfl
  | succ i ih =>
    by_cases h : p i = true
    · rw [cn_t h, cn_f (p := fun j => !p j) (by simp [h])]; omega
    · rw [cn_f h, cn_t (p := fun j => !p j) (by simpa using h)]; omega
section CT
variable {K F n b h : Nat} {num : Nat → Nat → Nat} {wid ord : Nat → Nat} {tau gx gy : Nat → Int32} {gr : Nat → Nat → Nat} {lr : Nat → Nat} {ll ls : Nat → Nat → Nat} {st sm : jS}
theorem ct_loop {x1 : Int32} {post : Int32 → jS → Prop} (hk : kD K F n b h num wid ord tau gx gy gr lr ll ls st) (hn : n ≤ 24) (hp : post (nI (cn (fun i => tau i == x1) n)) st) : ∀ m i, i + m = n → wp_Ex_countTaught_4 K F post (m + 1) st x1 (nI (cn (fun i => tau i == x1) i)) (nI i) := by
  have hk15 : st 1 5 = nI n := hk.2.1.2
  intro m
  induction m with
  | zero =>
    intro i hi
    have e : i = n := by omega
    subst e
    exact ⟨fun _ => hp, fun q => absurd (by rw [hk15]; exact Int32.le_refl _) q⟩
  | succ m ih =>
    intro i hi
    refine ⟨fun q => absurd q (by rw [hk15]; exact nI_ge (by omega) (by omega)), fun _ => ⟨vp_in_nI (by omega) (by omega), ?_, ?_⟩⟩
    · rw [nI_clamp (by omega), hk.2.2.2.2.1 i (by omega)]
      intro q
      have := ih (i + 1) (by omega)
      rw [cn_f (by simpa using q)] at this
      rw [nI_1]; exact this
    · rw [nI_clamp (by omega), hk.2.2.2.2.1 i (by omega)]
      intro q
      have := ih (i + 1) (by omega)
      rw [cn_t (by simpa using q)] at this
      rw [nI_1, nI_1]; exact this
theorem mt_loop {x1 : Int32} {post : Int32 → jS → Prop} (hm : mD K F n b h num wid ord tau gx gy gr lr ll ls sm) (hn : n ≤ 24)
    (hp : ((x1 = (0 : Int32) → post (nI n) sm) ∧ (x1 = (1 : Int32) → post (nI (cn (fun i => !(tau i == -1)) n)) sm) ∧ (x1 = (2 : Int32) → post (nI h) sm) ∧ (x1 = (3 : Int32) → post (nI K) sm) ∧ (x1 = (4 : Int32) → post (nI F) sm) ∧ (¬ x1 = (0 : Int32) → ¬ x1 = (1 : Int32) → ¬ x1 = (2 : Int32) → ¬ x1 = (3 : Int32) → ¬ x1 = (4 : Int32) → post (-1 : Int32) sm))) : ∀ m i, i + m = n → wp_Mo_count_9 post (m + 1) sm x1 (nI (cn (fun i => !(tau i == -1)) i)) (nI i) := by
  have h04 : sm 0 4 = nI n := hm.2.1.1
  intro m
  induction m with
  | zero =>
    intro i hi
    have e : i = n := by omega
    subst e
    refine ⟨fun _ => ?_, fun q => absurd (by rw [h04]; exact Int32.le_refl _) q⟩
    rw [h04, hm.2.1.2.2, hm.1.1, hm.1.2]
    exact hp
  | succ m ih =>
    intro i hi
    refine ⟨fun q => absurd q (by rw [h04]; exact nI_ge (by omega) (by omega)), fun _ => ⟨vp_in_nI (by omega) (by omega), ?_, ?_⟩⟩
    · rw [nI_clamp (by omega), hm.2.2.1 i (by omega)]
      intro q
      have := ih (i + 1) (by omega)
      rw [cn_f (by simpa using q)] at this
      rw [nI_1]; exact this
    · rw [nI_clamp (by omega), hm.2.2.1 i (by omega)]
      intro q
      have := ih (i + 1) (by omega)
      rw [cn_t (by simpa using q)] at this
      rw [nI_1, nI_1]; exact this
end CT
theorem p_23 (K F : Nat) : lOwe wc_23 K F (Rl K F) := by
  intro st f sm a1 a2 a3 a4 hR
  obtain ⟨n, b, h, num, wid, ord, tau, gx, gy, gr, lr, ll, ls, hv, hk, hm⟩ := id hR
  obtain ⟨v0, v1, v2, v3, v4, v5, v6, v7, v8, v9, v10, v11⟩ := id hv
  have hf : Rl K F st (jq sm 0 0 0) := Rl_thr 0 hR
  have M : ∀ r : Int32, ((a1 = (0 : Int32) → r = (nI n)) ∧ (a1 = (1 : Int32) → r = (nI (cn (fun i => !(tau i == -1)) n))) ∧ (a1 = (2 : Int32) → r = (nI h)) ∧ (a1 = (3 : Int32) → r = (nI K)) ∧ (a1 = (4 : Int32) → r = (nI F)) ∧ (¬ a1 = (0 : Int32) → ¬ a1 = (1 : Int32) → ¬ a1 = (2 : Int32) → ¬ a1 = (3 : Int32) → ¬ a1 = (4 : Int32) → r = (-1 : Int32))) → wp_Mo_count sm a1 (fun r3 u4 => r = r3 ∧ Rl K F st u4) := by
    rintro r ⟨q0, q1, q2, q3, q4, q5⟩
    exact ⟨n + 1, mt_loop (mD_thr 0 hm) v2 ⟨fun q => ⟨q0 q, hf⟩, fun q => ⟨q1 q, hf⟩, fun q => ⟨q2 q, hf⟩, fun q => ⟨q3 q, hf⟩, fun q => ⟨q4 q, hf⟩, fun z0 z1 z2 z3 z4 => ⟨q5 z0 z1 z2 z3 z4, hf⟩⟩ n 0 (by omega)⟩
  unfold wc_23 wp_KT_count
  refine ⟨?_, ?_, ?_, ?_, ?_, ?_⟩
  · rintro rfl
    refine M _ ⟨fun _ => hk.2.1.2, fun q => absurd q (by decide), fun q => absurd q (by decide), fun q => absurd q (by decide), fun q => absurd q (by decide), fun q => absurd rfl q⟩
  · rintro rfl
    refine ⟨n + 1, ct_loop hk v2 ?_ n 0 (by omega)⟩
    refine M _ ⟨fun q => absurd q (by decide), fun _ => ?_, fun q => absurd q (by decide), fun q => absurd q (by decide), fun q => absurd q (by decide), fun _ q => absurd rfl q⟩
    have e := cn_not (fun i => tau i == -1) n
    rw [hk.2.1.2, pk_sub (by omega)]
    congr 1
    omega
  · rintro rfl
    refine M _ ⟨fun q => absurd q (by decide), fun q => absurd q (by decide), fun _ => hk.2.2.2.1.2, fun q => absurd q (by decide), fun q => absurd q (by decide), fun _ _ q => absurd rfl q⟩
  · rintro rfl
    refine M _ ⟨fun q => absurd q (by decide), fun q => absurd q (by decide), fun q => absurd q (by decide), fun _ => hk.1.1, fun q => absurd q (by decide), fun _ _ _ q => absurd rfl q⟩
  · rintro rfl
    refine M _ ⟨fun q => absurd q (by decide), fun q => absurd q (by decide), fun q => absurd q (by decide), fun q => absurd q (by decide), fun _ => hk.1.2, fun _ _ _ _ q => absurd rfl q⟩
  · intro z0 z1 z2 z3 z4
    refine M _ ⟨fun q => absurd q z0, fun q => absurd q z1, fun q => absurd q z2, fun q => absurd q z3, fun q => absurd q z4, fun _ _ _ _ _ => rfl⟩
/-! ===== law ===== -/
section UL
variable {K F n b h : Nat} {num : Nat → Nat → Nat} {wid ord : Nat → Nat} {tau gx gy : Nat → Int32} {gr : Nat → Nat → Nat} {lr : Nat → Nat} {ll ls : Nat → Nat → Nat} {st sm : jS}
theorem kD_law {k c l s : Nat} (hk9 : k < K) (hc : lr k = c) (hk : kD K F n b h num wid ord tau gx gy gr lr ll ls st) : kD K F n b h num wid ord tau gx gy gr (fun a => if a = k then c + 1 else lr a) (fun a r => if a = k ∧ r = c then l else ll a r) (fun a r => if a = k ∧ r = c then s else ls a r) (jq (jq (jq st (52 + 3 * k) c (nI l)) (53 + 3 * k) c (nI s)) (51 + 3 * k) 2 (nI (c + 1))) := by
  obtain ⟨k0, k1, k2, k3, k4, k5, k6, k7, k8, k9, k10⟩ := hk
  have Q : ∀ a j, a < 51 → jq (jq (jq st (52 + 3 * k) c (nI l)) (53 + 3 * k) c (nI s)) (51 + 3 * k) 2 (nI (c + 1)) a j = st a j := by
    intro a j ha
    rw [jq_o (by omega), jq_o (by omega), jq_o (by omega)]
  refine ⟨?_, ?_, ?_, ?_, ?_, ?_, ?_, ?_, ?_, ?_, ?_⟩
  · rw [Q _ _ (by omega), Q _ _ (by omega)]; exact k0
  · rw [Q _ _ (by omega), Q _ _ (by omega)]; exact k1
  · rw [Q _ _ (by omega), Q _ _ (by omega)]; exact k2
  · rw [Q _ _ (by omega), Q _ _ (by omega)]; exact k3
  · intro j hj; rw [Q _ _ (by omega)]; exact k4 j hj
  · intro j hj; rw [Q _ _ (by omega)]; exact k5 j hj
  · intro e f he hf; rw [Q _ _ (by omega)]; exact k6 e f he hf
  · intro j hj; rw [Q _ _ (by omega)]; exact k7 j hj
  · intro j hj; rw [Q _ _ (by omega), Q _ _ (by omega)]; exact k8 j hj
  · intro a d ha hd; rw [Q _ _ (by omega)]; exact k9 a d ha hd
  · intro a ha
    refine ⟨?_, fun r hr => ⟨?_, ?_⟩⟩
    · show _ = nI (if a = k then c + 1 else lr a)
      rw [jq_r]
      by_cases q : a = k
      · rw [if_pos ⟨by omega, rfl⟩, if_pos q]
      · rw [if_neg (fun z => q (by omega)), if_neg q, jq_o (by omega), jq_o (by omega)]; exact (k10 a ha).1
    · show _ = nI (if a = k ∧ r = c then l else ll a r)
      rw [jq_o (by omega), jq_o (by omega), jq_r]
      by_cases q : a = k ∧ r = c
      · rw [if_pos ⟨by omega, q.2⟩, if_pos q]
      · rw [if_neg (fun z => q ⟨by omega, z.2⟩), if_neg q]; exact ((k10 a ha).2 r hr).1
    · show _ = nI (if a = k ∧ r = c then s else ls a r)
      rw [jq_o (by omega), jq_r]
      by_cases q : a = k ∧ r = c
      · rw [if_pos ⟨by omega, q.2⟩, if_pos q]
      · rw [if_neg (fun z => q ⟨by omega, z.2⟩), if_neg q, jq_o (by omega)]; exact ((k10 a ha).2 r hr).2
theorem mD_law {k c l s : Nat} (hk9 : k < K) (hK : K ≤ 6) (hc : lr k = c) (hc6 : c < 6) (hm : mD K F n b h num wid ord tau gx gy gr lr ll ls sm) : mD K F n b h num wid ord tau gx gy gr (fun a => if a = k then c + 1 else lr a) (fun a r => if a = k ∧ r = c then l else ll a r) (fun a r => if a = k ∧ r = c then s else ls a r) (jq (jq (jq sm 9 (6 * k + c) (nI l)) 10 (6 * k + c) (nI s)) 8 k (nI (c + 1))) := by
  obtain ⟨m0, m1, m2, m3, m4, m5, m6, m7, m8⟩ := hm
  refine ⟨m0, m1, m2, m3, m4, m5, m6, m7, ?_⟩
  intro a ha
  refine ⟨?_, fun r hr => ⟨?_, ?_⟩⟩
  · show _ = nI (if a = k then c + 1 else lr a)
    rw [jq_r]
    by_cases q : a = k
    · rw [if_pos ⟨rfl, q⟩, if_pos q]
    · rw [if_neg (fun z => q z.2), if_neg q, jq_o (by omega), jq_o (by omega)]; exact (m8 a ha).1
  · show _ = nI (if a = k ∧ r = c then l else ll a r)
    rw [jq_o (by omega), jq_o (by omega), jq_r]
    by_cases q : a = k ∧ r = c
    · rw [if_pos ⟨rfl, by omega⟩, if_pos q]
    · rw [if_neg (fun z => q (by have := z.2; omega)), if_neg q]; exact ((m8 a ha).2 r hr).1
  · show _ = nI (if a = k ∧ r = c then s else ls a r)
    rw [jq_o (by omega), jq_r]
    by_cases q : a = k ∧ r = c
    · rw [if_pos ⟨rfl, by omega⟩, if_pos q]
    · rw [if_neg (fun z => q (by have := z.2; omega)), if_neg q, jq_o (by omega)]; exact ((m8 a ha).2 r hr).2
end UL
