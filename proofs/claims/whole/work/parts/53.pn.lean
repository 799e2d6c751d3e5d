section GM
variable {K F n b h : Nat} {num : Nat → Nat → Nat} {wid ord : Nat → Nat} {tau gx gy : Nat → Int32} {gr : Nat → Nat → Nat} {lr : Nat → Nat} {ll ls : Nat → Nat → Nat} {st sm : jS}
theorem mx_alike {a c T : Nat} {post : Int32 → jS → Prop} (hv : vD K F n b h num wid ord tau gx gy gr lr ll ls) (hm : mD K F n b h num wid ord tau gx gy gr lr ll ls sm) (ha : a < 24) (hc : c < 24) (hT : T ≤ F) (h0 : ¬ alk num wid F T c a → post 0 sm) (h1 : alk num wid F T c a → post 1 sm) : wp_Mo_alike sm (nI a) (nI c) (nI T) post := by
  have hF := hv.2.1.2
  have L : ∀ m j, j + m = F → wp_Mo_alike_6 post (m + 1) sm (nI a) (nI c) (nI T) (nI (sc num wid c a 0 j)) (nI j) := by
    intro m
    induction m with
    | zero =>
      intro j e
      have e : j = F := by omega
      subst e
      have cl : sc num wid c a 0 j ≤ j := cn_le _ _
      refine ⟨fun _ => ?_, fun q => absurd (by rw [hm.1.2]; exact Int32.le_refl _) q⟩
      rw [nI_ltI (by omega) (by omega)]
      exact ⟨fun q => h0 (fun z => by unfold alk at z; omega), fun q => h1 (by unfold alk; omega)⟩
    | succ m ih =>
      intro j e
      have I := ih (j + 1) (by omega)
      unfold sc at I
      refine ⟨fun q => absurd q (by rw [hm.1.2]; exact nI_ge (by omega) (by omega)), fun _ => mx_cell hv hm ha (by omega) (mx_cell hv hm hc (by omega) ⟨fun q => ?_, fun q => ?_⟩)⟩
      · rw [cn_f (by intro z; rw [Nat.zero_add] at z; exact q (congrArg nI (eq_of_beq z)))] at I
        rw [nI_1]; exact I
      · rw [cn_t (by rw [Nat.zero_add, (nI_eq (ce_le hv _ _) (ce_le hv _ _)).mp q]; exact beq_self_eq_true _)] at I
        rw [nI_1, nI_1]; exact I
  exact ⟨F + 1, L F 0 (by omega)⟩
def mInv (n : Nat) (A : Nat → Nat → Prop) (f : Nat → Int32) (q : Nat) : Prop := snd9 n A f ∧ ∀ a c, a < n → c < n → a * n + c < q → A c a → f a = f c
theorem mx_join {T a c : Nat} {x2 : Int32} {f : Nat → Int32} {post : Int32 → jS → Prop} {kont : jS → Int32 → Int32 → Int32 → Int32 → Int32 → Int32 → Prop} (hv : vD K F n b h num wid ord tau gx gy gr lr ll ls) (hm : mD K F n b h num wid ord tau gx gy gr lr ll ls sm) (hT : T ≤ F) (ha : a < n) (hc : c < n) (hf : ∀ x, x < n → sm 11 x = f x)
    (h0 : f a = f c ∨ ¬ alk num wid F T c a → kont sm (nI T) x2 (nI a) (nI c) (f a) 0)
    (h1 : ¬ f a = f c → alk num wid F T c a → ∀ sm' x6, (∀ y, y ≠ 11 → sm' y = sm y) → (∀ x, x < n → sm' 11 x = mrg f (f c) (f a) x) → kont sm' (nI T) x2 (nI a) (nI c) (f a) x6) : ∃ N, wp_Mo_groups_94 post kont N sm (nI T) x2 (nI a) (nI c) (f a) (0 : Int32) := by
  have hn := hv.2.2.1
  have vc : vp_in (nI c) 24 := vp_in_nI (by omega) (by omega)
  by_cases q0 : f a = f c ∨ ¬ alk num wid F T c a
  · have k0 := h0 q0
    refine ⟨1, fun _ => k0, fun _ => ⟨vc, fun _ => k0, fun q => ?_⟩⟩
    rw [nI_clamp (by omega), hf c hc] at q
    exact mx_alike hv hm (by omega) (by omega) hT (fun _ => ⟨fun _ => k0, fun z => absurd rfl z⟩) (fun z => absurd z (q0.resolve_left q))
  · have q1 : ¬ f a = f c := fun z => q0 (Or.inl z)
    have q2 : alk num wid F T c a := Classical.byContradiction fun z => q0 (Or.inr z)
    have mc : mrg f (f c) (f a) c = f c := by unfold mrg; rw [if_neg (fun z => q1 z.symm)]
    have L : ∀ m i sm', i + m = n → (∀ y, y ≠ 11 → sm' y = sm y) → (∀ x, x < i → sm' 11 x = mrg f (f c) (f a) x) → (∀ x, i ≤ x → x < n → sm' 11 x = f x) → wp_Mo_groups_94 post kont (m + 1) sm' (nI T) x2 (nI a) (nI c) (f a) (nI i) := by
      intro m
      induction m with
      | zero =>
        intro i sm' e hs g1 g2
        have e : i = n := by omega
        subst e
        exact ⟨fun _ => h1 q1 q2 sm' _ hs g1, fun q => absurd (by rw [hs 0 (by omega), hm.2.1.1]; exact Int32.le_refl _) q⟩
      | succ m ih =>
        intro i sm' e hs g1 g2
        have hm' := mD_congr (sm' := sm') (fun y _ h11 => hs y h11) (fun j _ => by rw [hs 0 (by omega)]) hm
        have vi : vp_in (nI i) 24 := vp_in_nI (by omega) (by omega)
        have s11c : sm' 11 c = f c := by
          rcases Nat.lt_or_ge c i with w | w
          · rw [g1 c w, mc]
          · exact g2 c w hc
        have go : ∀ w : Int32, w = mrg f (f c) (f a) i → wp_Mo_groups_94 post kont (m + 1) (jq sm' 11 i w) (nI T) x2 (nI a) (nI c) (f a) (nI (i + 1)) := by
          intro w hw
          refine ih (i + 1) _ (by omega) (fun y hy => ?_) (fun x hx => ?_) (fun x h1 h2 => ?_)
          · rw [← hs y hy]; exact funext fun x => jq_o hy
          · rw [jq_r]
            by_cases z : x = i
            · rw [if_pos ⟨rfl, z⟩, z, hw]
            · rw [if_neg (fun v => z v.2)]; exact g1 x (by omega)
          · rw [jq_p (by omega)]; exact g2 x (by omega) h2
        refine ⟨fun q => absurd q (by rw [hs 0 (by omega), hm.2.1.1]; exact nI_ge (by omega) (by omega)), fun _ => ⟨vc, fun q => ?_, fun q => mx_alike hv hm' (by omega) (by omega) hT (fun z => absurd q2 z) (fun _ => ⟨fun z => absurd z (by decide), fun _ => ?_⟩)⟩⟩
        · rw [nI_clamp (by omega), s11c] at q; exact absurd q q1
        · rw [nI_eq (by omega) (by omega), nI_clamp (show i < 2 ^ 31 by omega), nI_clamp (show c < 2 ^ 31 by omega), g2 i (by omega) (by omega), s11c, nI_1]
          refine ⟨fun z => ⟨vi, vi, go _ ?_⟩, fun z => ⟨vi, fun z1 => ⟨vi, vi, go _ ?_⟩, fun z1 => ⟨vc, vi, go _ ?_⟩⟩⟩
          · rw [z, mc]
          · unfold mrg; rw [if_neg z1]
          · unfold mrg; rw [if_pos z1]
    exact ⟨n + 1, L n 0 sm (by omega) (fun _ _ => rfl) (fun x hx => absurd hx (by omega)) (fun x _ h2 => hf x h2)⟩
theorem mx_cnt {f : Nat → Int32} {x1 : Int32} {post : Int32 → jS → Prop} (hv : vD K F n b h num wid ord tau gx gy gr lr ll ls) (hm : mD K F n b h num wid ord tau gx gy gr lr ll ls sm) (hf : ∀ x, x < n → sm 11 x = f x) (hp : post (nI (cn (fst9 f) n)) sm) : ∃ N, wp_Mo_groups_185 post N sm x1 (0 : Int32) (0 : Int32) := by
  have hn := hv.2.2.1
  have I : ∀ (kont : jS → Int32 → Int32 → Int32 → Int32 → Int32 → Prop) (i : Nat) (x2 : Int32), i < n → (∀ z : Int32, z = (if fst9 f i = true then 1 else 0) → kont sm x1 x2 (nI i) z (nI i)) → ∀ m j (z : Int32), j + m = i → ((z = 1 ∧ ∀ y, y < j → ¬ f y = f i) ∨ (z = 0 ∧ ∃ y, y < j ∧ f y = f i)) → wp_Mo_groups_199 post kont (m + 1) sm x1 x2 (nI i) z (nI j) := by
    intro kont i x2 hi hkont m
    induction m with
    | zero =>
      intro j z e hz
      have e : j = i := by omega
      subst e
      refine ⟨fun _ => hkont z ?_, fun q => absurd (Int32.le_refl _) q⟩
      rcases hz with ⟨rfl, w⟩ | ⟨rfl, y, hy, w⟩
      · rw [if_pos ((fst_iff f j).mpr w)]
      · rw [if_neg (fun v => (fst_iff f j).mp v y hy w)]
    | succ m ih =>
      intro j z e hz
      refine ⟨fun q => absurd q (nI_ge (by omega) (by omega)), fun _ => ?_⟩
      rw [nI_clamp (show j < 2 ^ 31 by omega), nI_clamp (show i < 2 ^ 31 by omega), hf j (by omega), hf i hi, nI_1]
      refine ⟨fun q => ih (j + 1) 0 (by omega) (Or.inr ⟨rfl, ?_⟩), fun q => ⟨vp_in_nI (by omega) (by omega), vp_in_nI (by omega) (by omega), fun q1 => ih (j + 1) 0 (by omega) (Or.inr ⟨rfl, j, by omega, q1⟩), fun q1 => ih (j + 1) 1 (by omega) (Or.inl ⟨rfl, fun y hy => ?_⟩)⟩⟩
      · rcases hz with ⟨rfl, w⟩ | ⟨_, y, hy, w⟩
        · exact absurd q (by decide)
        · exact ⟨y, by omega, w⟩
      · rcases hz with ⟨_, w⟩ | ⟨e0, _⟩
        · by_cases v : y = j
          · rw [v]; exact q1
          · exact w y (by omega)
        · exact absurd e0 q
  have L : ∀ m i, i + m = n → wp_Mo_groups_185 post (m + 1) sm x1 (nI (cn (fst9 f) i)) (nI i) := by
    intro m
    induction m with
    | zero =>
      intro i e
      have e : i = n := by omega
      subst e
      exact ⟨fun _ => hp, fun q => absurd (by rw [hm.2.1.1]; exact Int32.le_refl _) q⟩
    | succ m ih =>
      intro i e
      have J := ih (i + 1) (by omega)
      refine ⟨fun q => absurd q (by rw [hm.2.1.1]; exact nI_ge (by omega) (by omega)), fun _ => ⟨i + 1, I _ i _ (by omega) ?_ i 0 1 (by omega) (Or.inl ⟨rfl, fun y hy => absurd hy (by omega)⟩)⟩⟩
      rintro z rfl
      by_cases w : fst9 f i = true
      · rw [if_pos w]
        rw [cn_t w] at J
        refine ⟨fun v => absurd v (by decide), fun _ => ?_⟩
        rw [nI_1, nI_1]; exact J
      · rw [if_neg w]
        rw [cn_f w] at J
        refine ⟨fun _ => ?_, fun v => absurd rfl v⟩
        rw [nI_1]; exact J
  exact ⟨n + 1, L n 0 (by omega)⟩
theorem mx_groups {T : Nat} {post : Int32 → jS → Prop} (hv : vD K F n b h num wid ord tau gx gy gr lr ll ls) (hm : mD K F n b h num wid ord tau gx gy gr lr ll ls sm) (hT : T ≤ F) (hp : ∀ sm' f, (∀ y, y ≠ 11 → sm' y = sm y) → mInv n (alk num wid F T) f (n * n) → post (nI (cn (fst9 f) n)) sm') : ∃ N, wp_Mo_groups_32 post N sm (nI T) (0 : Int32) := by
  have hn := hv.2.2.1
  have nn : n * n ≤ 24 * 24 := Nat.mul_le_mul hn hn
  have O : ∀ m q sm' f, q + m = n * n → (∀ y, y ≠ 11 → sm' y = sm y) → (∀ x, x < n → sm' 11 x = f x) → mInv n (alk num wid F T) f q → wp_Mo_groups_55 post (m + 1) sm' (nI T) (nI q) := by
    intro m
    induction m with
    | zero =>
      intro q sm' f e hs hf hg
      have e : q = n * n := by omega
      subst e
      have hm' := mD_congr (sm' := sm') (fun y _ h11 => hs y h11) (fun j _ => by rw [hs 0 (by omega)]) hm
      refine ⟨fun _ => mx_cnt hv hm' hf (hp sm' f hs hg), fun q => absurd (by rw [hm'.2.1.1, pk_mul]; exact Int32.le_refl _) q⟩
    | succ m ih =>
      intro q sm' f e hs hf hg
      have hm' := mD_congr (sm' := sm') (fun y _ h11 => hs y h11) (fun j _ => by rw [hs 0 (by omega)]) hm
      have n0 : 0 < n := by
        rcases Nat.eq_zero_or_pos n with w | w
        · rw [w] at e; omega
        · exact w
      have qa : q / n < n := Nat.div_lt_of_lt_mul (by omega)
      have qc : q % n < n := Nat.mod_lt q n0
      have dm := Nat.div_add_mod q n
      have nz : ¬ nI n = 0 := nI_ne0 n0 (by omega)
      have un : ∀ a c, c < n → a * n + c = q → a = q / n ∧ c = q % n := by
        intro a c hc e
        subst e
        refine ⟨?_, ?_⟩
        · rw [Nat.mul_comm, Nat.mul_add_div n0, Nat.div_eq_of_lt hc, Nat.add_zero]
        · rw [Nat.mul_comm, Nat.mul_add_mod, Nat.mod_eq_of_lt hc]
      refine ⟨fun w => absurd w (by rw [hm'.2.1.1, pk_mul]; exact nI_ge (by omega) (by omega)), fun _ => ?_⟩
      rw [hm'.2.1.1, pk_rem (by omega) n0 (by omega), pk_div (by omega) n0 (by omega), nI_clamp (show q / n < 2 ^ 31 by omega), hf _ qa]
      refine ⟨nz, nz, vp_in_nI (by omega) (by omega), mx_join hv hm' hT qa qc hf (fun w => ?_) (fun w1 w2 sm2 x6 hs2 hf2 => ?_)⟩
      · rw [nI_1]
        refine ih (q + 1) sm' f (by omega) hs hf ⟨hg.1, fun a c h1 h2 h3 hA => ?_⟩
        by_cases z : a * n + c = q
        · obtain ⟨rfl, rfl⟩ := un a c h2 z
          exact w.resolve_right (fun v => v hA)
        · exact hg.2 a c h1 h2 (by omega) hA
      · rw [nI_1]
        refine ih (q + 1) sm2 _ (by omega) (fun y hy => (hs2 y hy).trans (hs y hy)) hf2 ⟨mrg_snd qc qa (Or.inl w2) hg.1, fun a c h1 h2 h3 hA => ?_⟩
        by_cases z : a * n + c = q
        · obtain ⟨rfl, rfl⟩ := un a c h2 z
          exact mrg_ij.symm
        · exact mrg_eq (hg.2 a c h1 h2 (by omega) hA)
  have Z : ∀ m i sm', i + m = n → (∀ y, y ≠ 11 → sm' y = sm y) → (∀ x, x < i → sm' 11 x = nI x) → wp_Mo_groups_32 post (m + 1) sm' (nI T) (nI i) := by
    intro m
    induction m with
    | zero =>
      intro i sm' e hs hf
      have e : i = n := by omega
      subst e
      refine ⟨fun _ => ⟨_, O (i * i) 0 sm' nI (by omega) hs hf ⟨fun x y hx hy w g _ => by rw [(nI_eq (by omega) (by omega)).mp w], fun a c h1 h2 h3 => absurd h3 (by omega)⟩⟩, fun q => absurd (by rw [hs 0 (by omega), hm.2.1.1]; exact Int32.le_refl _) q⟩
    | succ m ih =>
      intro i sm' e hs hf
      refine ⟨fun q => absurd q (by rw [hs 0 (by omega), hm.2.1.1]; exact nI_ge (by omega) (by omega)), fun _ => ⟨vp_in_nI (by omega) (by omega), ?_⟩⟩
      rw [nI_clamp (by omega), nI_1]
      refine ih (i + 1) _ (by omega) (fun y hy => ?_) (fun x hx => ?_)
      · rw [← hs y hy]; exact funext fun x => jq_o hy
      · rw [jq_r]
        by_cases w : x = i
        · rw [if_pos ⟨rfl, w⟩, w]
        · rw [if_neg (fun z => w z.2)]; exact hf x (by omega)
  exact ⟨n + 1, Z n 0 sm (by omega) (fun _ _ => rfl) (fun x hx => absurd hx (by omega))⟩
end GM
