def alk (num : Nat → Nat → Nat) (wid : Nat → Nat) (F T : Nat) (a c : Nat) : Prop := T ≤ sc num wid a c 0 F
theorem sc_comm (num : Nat → Nat → Nat) (wid : Nat → Nat) (a c lo m : Nat) : sc num wid a c lo m = sc num wid c a lo m := by
  unfold sc
  refine cn_ext fun x _ => ?_
  rw [beq_iff_eq, beq_iff_eq]
  exact ⟨Eq.symm, Eq.symm⟩
section GK
variable {K F n b h : Nat} {num : Nat → Nat → Nat} {wid ord : Nat → Nat} {tau gx gy : Nat → Int32} {gr : Nat → Nat → Nat} {lr : Nat → Nat} {ll ls : Nat → Nat → Nat} {st sm : jS}
theorem kx_join {f : Nat → Int32} {u v : Int32} {post : jS → Prop} (hn : n ≤ 24) (h15 : st 1 5 = nI n) (hf : ∀ x, x < n → st 8 x = f x) (hp : ∀ st', (∀ a, a ≠ 8 → st' a = st a) → (∀ x, x < n → st' 8 x = mrg f u v x) → post st') : wp_Ex_joinGroups K F st u v post := by
  have L : ∀ m i st', i + m = n → (∀ a, a ≠ 8 → st' a = st a) → (∀ x, x < i → st' 8 x = mrg f u v x) → (∀ x, i ≤ x → x < n → st' 8 x = f x) → wp_Ex_joinGroups_2 K F post (m + 1) st' u v (nI i) := by
    intro m
    induction m with
    | zero =>
      intro i st' e hs h1 h2
      have e : i = n := by omega
      subst e
      exact ⟨fun _ => hp st' hs h1, fun q => absurd (by rw [hs 1 (by omega), h15]; exact Int32.le_refl _) q⟩
    | succ m ih =>
      intro i st' e hs h1 h2
      refine ⟨fun q => absurd q (by rw [hs 1 (by omega), h15]; exact nI_ge (by omega) (by omega)), fun _ => ⟨vp_in_nI (by omega) (by omega), ?_⟩⟩
      rw [nI_clamp (by omega), h2 i (by omega) (by omega), nI_1]
      refine ⟨fun q => ih (i + 1) st' (by omega) hs (fun x hx => ?_) (fun x a c => h2 x (by omega) c), fun q => ⟨vp_in_nI (by omega) (by omega), ih (i + 1) _ (by omega) (fun a ha => ?_) (fun x hx => ?_) (fun x a c => ?_)⟩⟩
      · by_cases w : x = i
        · rw [w, h2 i (by omega) (by omega)]; unfold mrg; rw [if_neg q]
        · exact h1 x (by omega)
      · rw [← hs a ha]; exact funext fun x => jq_o ha
      · rw [jq_r]
        by_cases w : x = i
        · rw [if_pos ⟨rfl, w⟩, w]; unfold mrg; rw [if_pos q]
        · rw [if_neg (fun z => w z.2)]; exact h1 x (by omega)
      · rw [jq_p (by omega)]; exact h2 x (by omega) c
  exact ⟨n + 1, L n 0 st (by omega) (fun _ _ => rfl) (fun x hx => absurd hx (by omega)) (fun x _ c => hf x c)⟩
def gInv (n : Nat) (A : Nat → Nat → Prop) (f : Nat → Int32) (i j : Nat) : Prop := snd9 n A f ∧ ∀ a c, a < c → c < n → (a < i ∨ (a = i ∧ c < j)) → A a c → f a = f c
theorem kx_groups {T : Nat} {post : Int32 → jS → Prop} (hv : vD K F n b h num wid ord tau gx gy gr lr ll ls) (hk : kD K F n b h num wid ord tau gx gy gr lr ll ls st) (hT : T ≤ F) (hp : ∀ st' f, (∀ a, a ≠ 8 → st' a = st a) → gInv n (alk num wid F T) f n 0 → post (nI (cn (fst9 f) n)) st') : wp_Ex_countGroups K F st (nI T) post := by
  have hn := hv.2.2.1
  have hF := hv.2.1.2
  have I : ∀ (kont : jS → Int32 → Int32 → Int32 → Int32 → Prop) (i : Nat), i < n → (∀ st' f, (∀ a, a ≠ 8 → st' a = st a) → (∀ x, x < n → st' 8 x = f x) → gInv n (alk num wid F T) f i n → kont st' (nI T) (nI (cn (fst9 f) n)) (nI i) (nI n)) → ∀ m j st' f, i < j → j + m = n → (∀ a, a ≠ 8 → st' a = st a) → (∀ x, x < n → st' 8 x = f x) → gInv n (alk num wid F T) f i j → wp_Ex_countGroups_43 K F post kont (m + 1) st' (nI T) (nI (cn (fst9 f) n)) (nI i) (nI j) := by
    intro kont i hi hkont m
    induction m with
    | zero =>
      intro j st' f hij e hs hf hg
      have e : j = n := by omega
      subst e
      exact ⟨fun _ => hkont st' f hs hf hg, fun q => absurd (by rw [hs 1 (by omega), hk.2.1.2]; exact Int32.le_refl _) q⟩
    | succ m ih =>
      intro j st' f hij e hs hf hg
      have hk' := kD_congr (fun a h8 _ _ => hs a h8) hk
      have vi : vp_in (nI i) 24 := vp_in_nI (by omega) (by omega)
      have vj : vp_in (nI j) 24 := vp_in_nI (by omega) (by omega)
      have stay : (alk num wid F T i j → f i = f j) → wp_Ex_countGroups_43 K F post kont (m + 1) st' (nI T) (nI (cn (fst9 f) n)) (nI i) (nI j + 1) := by
        intro hh
        rw [nI_1]
        refine ih (j + 1) st' f (by omega) (by omega) hs hf ⟨hg.1, fun a c h1 h2 h3 hA => ?_⟩
        by_cases w : a = i ∧ c = j
        · rw [w.1, w.2] at hA ⊢; exact hh hA
        · exact hg.2 a c h1 h2 (by omega) hA
      refine ⟨fun q => absurd q (by rw [hk'.2.1.2]; exact nI_ge (by omega) (by omega)), fun _ => ⟨vi, vj, ?_⟩⟩
      rw [nI_clamp (show i < 2 ^ 31 by omega), nI_clamp (show j < 2 ^ 31 by omega), hf i hi, hf j (by omega), hk'.2.1.1]
      have cl := cn_le (fun x => num j (0 + x) / wid (0 + x) == num i (0 + x) / wid (0 + x)) (F - 0)
      refine ⟨fun q => stay (fun _ => q), fun q => kx_same (lo := 0) hv hk' (by omega) (by omega) (Nat.zero_le _) (Nat.le_refl _) ?_⟩
      have lt : nI (sc num wid i j 0 (F - 0)) < nI T ↔ sc num wid i j 0 F < T := nI_ltI (by unfold sc; omega) (by omega)
      rw [lt]
      refine ⟨fun q1 => stay (fun z => by unfold alk at z; omega), fun q1 => ⟨vi, vj, ?_⟩⟩
      rw [hf i hi, hf j (by omega)]
      refine kx_join hn hk'.2.1.2 hf fun st2 hs2 hf2 => ?_
      have cc := mrg_cn (n := n) (f := f) hi (by omega : j < n) q
      rw [← cc, pk_m1, nI_1]
      refine ih (j + 1) st2 _ (by omega) (by omega) (fun a ha => (hs2 a ha).trans (hs a ha)) hf2 ⟨mrg_snd hi (by omega) (Or.inl (by unfold alk; omega)) hg.1, fun a c h1 h2 h3 hA => ?_⟩
      by_cases w : a = i ∧ c = j
      · rw [w.1, w.2]; exact mrg_ij
      · exact mrg_eq (hg.2 a c h1 h2 (by omega) hA)
  have O : ∀ m i st' f, i + m = n → (∀ a, a ≠ 8 → st' a = st a) → (∀ x, x < n → st' 8 x = f x) → gInv n (alk num wid F T) f i 0 → wp_Ex_countGroups_30 K F post (m + 1) st' (nI T) (nI (cn (fst9 f) n)) (nI i) := by
    intro m
    induction m with
    | zero =>
      intro i st' f e hs hf hg
      have e : i = n := by omega
      subst e
      exact ⟨fun _ => hp st' f hs hg, fun q => absurd (by rw [hs 1 (by omega), hk.2.1.2]; exact Int32.le_refl _) q⟩
    | succ m ih =>
      intro i st' f e hs hf hg
      refine ⟨fun q => absurd q (by rw [hs 1 (by omega), hk.2.1.2]; exact nI_ge (by omega) (by omega)), fun _ => ?_⟩
      rw [nI_1]
      refine ⟨_, I _ i (by omega) ?_ (n - (i + 1)) (i + 1) st' f (by omega) (by omega) hs hf ⟨hg.1, fun a c h1 h2 h3 hA => hg.2 a c h1 h2 (by omega) hA⟩⟩
      intro st2 f2 hs2 hf2 hg2
      rw [nI_1]
      exact ih (i + 1) st2 f2 (by omega) hs2 hf2 ⟨hg2.1, fun a c h1 h2 h3 hA => hg2.2 a c h1 h2 (by omega) hA⟩
  have Z : ∀ m i st', i + m = n → (∀ a, a ≠ 8 → st' a = st a) → (∀ x, x < i → st' 8 x = nI x) → wp_Ex_countGroups_2 K F post (m + 1) st' (nI T) (nI i) := by
    intro m
    induction m with
    | zero =>
      intro i st' e hs hf
      have e : i = n := by omega
      subst e
      have c0 : cn (fst9 nI) i = i := by
        rw [cn_ext (p := fst9 nI) (q := fun _ => true) (fun x hx => ⟨fun _ => rfl, fun _ => (fst_iff nI x).mpr fun y hy w => by have := (nI_eq (by omega) (by omega)).mp w; omega⟩), cn_all]
      refine ⟨fun _ => ⟨i + 1, ?_⟩, fun q => absurd (by rw [hs 1 (by omega), hk.2.1.2]; exact Int32.le_refl _) q⟩
      have g := O i 0 st' nI (by omega) hs hf ⟨fun x y hx hy w g _ => by rw [(nI_eq (by omega) (by omega)).mp w], fun a c h1 h2 h3 => absurd h3 (by omega)⟩
      rw [c0] at g
      rw [hs 1 (by omega), hk.2.1.2]
      exact g
    | succ m ih =>
      intro i st' e hs hf
      refine ⟨fun q => absurd q (by rw [hs 1 (by omega), hk.2.1.2]; exact nI_ge (by omega) (by omega)), fun _ => ⟨vp_in_nI (by omega) (by omega), ?_⟩⟩
      rw [nI_clamp (by omega), nI_1]
      refine ih (i + 1) _ (by omega) (fun a ha => ?_) (fun x hx => ?_)
      · rw [← hs a ha]; exact funext fun x => jq_o ha
      · rw [jq_r]
        by_cases w : x = i
        · rw [if_pos ⟨rfl, w⟩, w]
        · rw [if_neg (fun z => w z.2)]; exact hf x (by omega)
  exact ⟨n + 1, Z n 0 st (by omega) (fun _ _ => rfl) (fun x hx => absurd hx (by omega))⟩
end GK
