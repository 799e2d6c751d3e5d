/-! ===== groups ===== -/
/-- i and j have one mark in every marking that keeps to A below n -/
def clo (n : Nat) (A : Nat → Nat → Prop) (i j : Nat) : Prop := ∀ g : Nat → Int32, (∀ a c, a < n → c < n → A a c → g a = g c) → g i = g j
/-- a marking tells no more than A asks -/
def snd9 (n : Nat) (A : Nat → Nat → Prop) (f : Nat → Int32) : Prop := ∀ i j, i < n → j < n → f i = f j → clo n A i j
/-- all marked v are marked u -/
def mrg (f : Nat → Int32) (u v : Int32) (x : Nat) : Int32 := if f x = v then u else f x
theorem mrg_snd {n : Nat} {A : Nat → Nat → Prop} {f : Nat → Int32} {i j : Nat} (hi : i < n) (hj : j < n) (hA : A i j ∨ A j i) (hs : snd9 n A f) : snd9 n A (mrg f (f i) (f j)) := by
  have cij : clo n A i j := by
    intro g hg
    rcases hA with q | q
    · exact hg i j hi hj q
    · exact (hg j i hj hi q).symm
  intro x y hx hy e g hg
  unfold mrg at e
  by_cases q1 : f x = f j
  · rw [if_pos q1] at e
    by_cases q2 : f y = f j
    · exact hs x y hx hy (q1.trans q2.symm) g hg
    · rw [if_neg q2] at e
      exact (hs x j hx hj q1 g hg).trans ((cij g hg).symm.trans (hs i y hi hy e g hg))
  · rw [if_neg q1] at e
    by_cases q2 : f y = f j
    · rw [if_pos q2] at e
      exact (hs x i hx hi e g hg).trans ((cij g hg).trans (hs j y hj hy q2.symm g hg))
    · rw [if_neg q2] at e
      exact hs x y hx hy e g hg
theorem mrg_eq {f : Nat → Int32} {u v : Int32} {x y : Nat} (h : f x = f y) : mrg f u v x = mrg f u v y := by
  unfold mrg; rw [h]
theorem mrg_ij {f : Nat → Int32} {i j : Nat} : mrg f (f i) (f j) i = mrg f (f i) (f j) j := by
  unfold mrg
  rw [if_pos rfl]
  by_cases q : f i = f j
  · rw [if_pos q]
  · rw [if_neg q]
/-- no one before i has its mark -/
def fst9 (f : Nat → Int32) (i : Nat) : Bool := decide (∀ j, j < i → ¬ f j = f i)
theorem fst_iff (f : Nat → Int32) (i : Nat) : fst9 f i = true ↔ ∀ j, j < i → ¬ f j = f i := by unfold fst9; rw [decide_eq_true_eq]
theorem cn_ext {p q : Nat → Bool} {n : Nat} (h : ∀ x, x < n → (p x = true ↔ q x = true)) : cn p n = cn q n :=
  Nat.le_antisymm (cn_mono fun x hx => (h x hx).mp) (cn_mono fun x hx => (h x hx).mpr)
theorem cn_but {p q : Nat → Bool} {n z : Nat} (hz : z < n) (hp : p z = true) (h : ∀ x, x < n → (q x = true ↔ (p x = true ∧ x ≠ z))) : cn q n + 1 = cn p n := by
  induction n with
  | zero => omega
  | succ n ih =>
    by_cases e : z = n
    · subst e
      rw [cn_t hp, cn_f (fun w => ((h z hz).mp w).2 rfl), cn_ext (p := q) (q := p) (n := z) (fun x hx => ⟨fun w => ((h x (by omega)).mp w).1, fun w => (h x (by omega)).mpr ⟨w, by omega⟩⟩)]
    · have I := ih (by omega) (fun x hx => h x (by omega))
      by_cases a : p n = true
      · rw [cn_t a, cn_t ((h n (by omega)).mpr ⟨a, fun w => e w.symm⟩)]; omega
      · rw [cn_f a, cn_f (fun w => a ((h n (by omega)).mp w).1)]; exact I
/-- one mark fewer after two different ones have become one -/
theorem mrg_cn {n : Nat} {f : Nat → Int32} {i j : Nat} (hi : i < n) (hj : j < n) (hne : ¬ f i = f j) : cn (fst9 (mrg f (f i) (f j))) n + 1 = cn (fst9 f) n := by
  obtain ⟨p, ep, mp⟩ := pk_least (fun x => f x = f i) ⟨i, rfl⟩
  obtain ⟨q, eq, mq⟩ := pk_least (fun x => f x = f j) ⟨j, rfl⟩
  have pi : p ≤ i := Nat.le_of_not_lt fun w => mp i w rfl
  have qj : q ≤ j := Nat.le_of_not_lt fun w => mq j w rfl
  have pq : p ≠ q := fun w => hne (by rw [← ep, ← eq, w])
  have fp : fst9 f p = true := (fst_iff f p).mpr fun x hx w => mp x hx (w.trans ep)
  have fq : fst9 f q = true := (fst_iff f q).mpr fun x hx w => mq x hx (w.trans eq)
  have mi : ∀ x, f x = f i → mrg f (f i) (f j) x = f i := fun x e => by unfold mrg; rw [if_neg (fun w => hne (e.symm.trans w))]; exact e
  have mj : ∀ x, f x = f j → mrg f (f i) (f j) x = f i := fun x e => by unfold mrg; rw [if_pos e]
  have mo : ∀ x, ¬ f x = f j → mrg f (f i) (f j) x = f x := fun x e => by unfold mrg; rw [if_neg e]
  have back : ∀ x, mrg f (f i) (f j) x = f i → f x = f i ∨ f x = f j := fun x e => by
    by_cases w : f x = f j
    · exact Or.inr w
    · rw [mo x w] at e; exact Or.inl e
  refine cn_but (z := if p < q then q else p) (by split <;> omega) (by split <;> assumption) (fun x hx => ?_)
  rw [fst_iff, fst_iff]
  by_cases xi : f x = f i
  · rw [mi x xi]
    constructor
    · intro w
      have wp : x ≤ p := Nat.le_of_not_lt fun z => w p z (mi p ep)
      have wq : x ≤ q := Nat.le_of_not_lt fun z => w q z (mj q eq)
      have xp : x = p := by
        rcases Nat.lt_or_ge x p with z | z
        · exact absurd xi (mp x z)
        · omega
      refine ⟨fun y hy e => w y hy (mi y (e.trans xi)), ?_⟩
      split <;> omega
    · rintro ⟨w, wz⟩ y hy e
      have xp : x = p := by
        rcases Nat.lt_trichotomy x p with z | z | z
        · exact absurd xi (mp x z)
        · exact z
        · exact absurd (ep.trans xi.symm) (w p z)
      rcases back y e with v | v
      · exact w y hy (v.trans xi.symm)
      · have := Nat.le_of_not_lt fun z => mq y z v
        split at wz <;> omega
  · by_cases xj : f x = f j
    · rw [mj x xj]
      constructor
      · intro w
        have wp : x ≤ p := Nat.le_of_not_lt fun z => w p z (mi p ep)
        have wq : x ≤ q := Nat.le_of_not_lt fun z => w q z (mj q eq)
        have xq : x = q := by
          rcases Nat.lt_or_ge x q with z | z
          · exact absurd xj (mq x z)
          · omega
        refine ⟨fun y hy e => w y hy (mj y (e.trans xj)), ?_⟩
        split <;> omega
      · rintro ⟨w, wz⟩ y hy e
        have xq : x = q := by
          rcases Nat.lt_trichotomy x q with z | z | z
          · exact absurd xj (mq x z)
          · exact z
          · exact absurd (eq.trans xj.symm) (w q z)
        rcases back y e with v | v
        · have := Nat.le_of_not_lt fun z => mp y z v
          split at wz <;> omega
        · exact w y hy (v.trans xj.symm)
    · rw [mo x xj]
      constructor
      · intro w
        refine ⟨fun y hy e => w y hy ?_, fun z => ?_⟩
        · rw [mo y (fun v => xj (e.symm.trans v))]; exact e
        · split at z
          · rw [z] at xj; exact xj eq
          · rw [z] at xi; exact xi ep
      · rintro ⟨w, _⟩ y hy e
        by_cases v : f y = f j
        · rw [mj y v] at e; exact xi e.symm
        · rw [mo y v] at e; exact w y hy e
theorem fst_same {n : Nat} {A B : Nat → Nat → Prop} {f g : Nat → Int32} (hf : snd9 n A f) (cf : ∀ a c, a < n → c < n → A a c → f a = f c) (hg : snd9 n A g) (cg : ∀ a c, a < n → c < n → A a c → g a = g c) : cn (fst9 f) n = cn (fst9 g) n := by
  refine cn_ext fun x hx => ?_
  rw [fst_iff, fst_iff]
  exact ⟨fun w y hy e => w y hy (hg y x (by omega) hx e f cf), fun w y hy e => w y hy (hf y x (by omega) hx e g cg)⟩
