/-! ===== the pure side: what both objects hold ===== -/
/-- the numbers are as the document has them -/
def vD (K F n b h : Nat) (num : Nat → Nat → Nat) (wid ord : Nat → Nat) (tau gx gy : Nat → Int32) (gr : Nat → Nat → Nat) (lr : Nat → Nat) (ll ls : Nat → Nat → Nat) : Prop :=
  (1 ≤ K ∧ K ≤ 6) ∧ (4 ≤ F ∧ F ≤ 11) ∧ n ≤ 24 ∧ b ≤ 1000 ∧ h ≤ 12 ∧ (∀ e f, num e f ≤ 2000) ∧ (∀ f, 1 ≤ wid f ∧ wid f ≤ 1000) ∧ (∀ i, tau i = -1 ∨ ∃ k, k < K ∧ tau i = nI k) ∧
  ((∀ p, p < K → ord p < K) ∧ ∀ p q, p < K → q < K → ord p = ord q → p = q) ∧ (∀ i, (-100 ≤ (gx i).toInt ∧ (gx i).toInt ≤ 100) ∧ (-100 ≤ (gy i).toInt ∧ (gy i).toInt ≤ 100)) ∧ (∀ i k, gr i k ≤ 1000) ∧
  (∀ k, lr k ≤ 6 ∧ (∀ r, r < lr k → 1 ≤ ll k r) ∧ (∀ r, ll k r ≤ 1000 ∧ ls k r ≤ 2000) ∧ ∀ r, r + 1 < lr k → ll k r < ll k (r + 1))
/-- the class's object holds them -/
def kD (K F n b h : Nat) (num : Nat → Nat → Nat) (wid ord : Nat → Nat) (tau gx gy : Nat → Int32) (gr : Nat → Nat → Nat) (lr : Nat → Nat) (ll ls : Nat → Nat → Nat) (st : jS) : Prop :=
  (st 0 0 = nI K ∧ st 0 1 = nI F) ∧ (st 1 0 = nI F ∧ st 1 5 = nI n) ∧ (st 2 1 = nI K ∧ st 2 5 = nI b) ∧ (st 3 0 = nI K ∧ st 3 4 = nI h) ∧ (∀ i, i < 24 → st 6 i = tau i) ∧ (∀ f, f < F → st 7 f = nI (wid f)) ∧ (∀ e f, e < 24 → f < F → st (15 + e) f = nI (num e f)) ∧ (∀ p, p < K → st 9 p = nI (ord p)) ∧ (∀ i, i < 12 → st 12 i = gx i ∧ st 13 i = gy i) ∧ (∀ i k, i < 12 → k < K → st (39 + i) k = nI (gr i k)) ∧ (∀ k, k < K → st (51 + 3 * k) 2 = nI (lr k) ∧ ∀ r, r < 6 → st (52 + 3 * k) r = nI (ll k r) ∧ st (53 + 3 * k) r = nI (ls k r))
/-- the reference's object holds them -/
def mD (K F n b h : Nat) (num : Nat → Nat → Nat) (wid ord : Nat → Nat) (tau gx gy : Nat → Int32) (gr : Nat → Nat → Nat) (lr : Nat → Nat) (ll ls : Nat → Nat → Nat) (sm : jS) : Prop :=
  (sm 0 1 = nI K ∧ sm 0 2 = nI F) ∧ (sm 0 4 = nI n ∧ sm 0 8 = nI b ∧ sm 0 9 = nI h) ∧ (∀ i, i < 24 → sm 2 i = tau i) ∧ (∀ f, f < F → sm 1 f = nI (wid f)) ∧ (∀ e f, e < 24 → f < F → sm 3 (11 * e + f) = nI (num e f)) ∧ (∀ p, p < K → sm 4 p = nI (ord p)) ∧ (∀ i, i < 12 → sm 5 i = gx i ∧ sm 6 i = gy i) ∧ (∀ i k, i < 12 → k < K → sm 7 (6 * i + k) = nI (gr i k)) ∧ (∀ k, k < K → sm 8 k = nI (lr k) ∧ ∀ r, r < 6 → sm 9 (6 * k + r) = nI (ll k r) ∧ sm 10 (6 * k + r) = nI (ls k r))
def Rl (K F : Nat) (st sm : jS) : Prop := ∃ (n b h : Nat) (num : Nat → Nat → Nat) (wid ord : Nat → Nat) (tau gx gy : Nat → Int32) (gr : Nat → Nat → Nat) (lr : Nat → Nat) (ll ls : Nat → Nat → Nat), vD K F n b h num wid ord tau gx gy gr lr ll ls ∧ kD K F n b h num wid ord tau gx gy gr lr ll ls st ∧ mD K F n b h num wid ord tau gx gy gr lr ll ls sm
theorem jq_r (st : jS) (a i : Nat) (x : Int32) (c j : Nat) : jq st a i x c j = if c = a ∧ j = i then x else st c j := by
  unfold jq upd
  by_cases h1 : c = a
  · subst h1
    by_cases h2 : j = i
    · simp [h2]
    · simp [h2]
  · simp [h1]
theorem jq_o {st : jS} {a i : Nat} {x : Int32} {c j : Nat} (h : c ≠ a) : jq st a i x c j = st c j := by
  rw [jq_r, if_neg (fun q => h q.1)]
theorem jq_p {st : jS} {a i : Nat} {x : Int32} {c j : Nat} (h : j ≠ i) : jq st a i x c j = st c j := by
  rw [jq_r, if_neg (fun q => h q.2)]
theorem jq_s {st : jS} {a i : Nat} {x : Int32} : jq st a i x a i = x := by
  rw [jq_r, if_pos ⟨rfl, rfl⟩]
section RD
variable {K F n b h : Nat} {num : Nat → Nat → Nat} {wid ord : Nat → Nat} {tau gx gy : Nat → Int32} {gr : Nat → Nat → Nat} {lr : Nat → Nat} {ll ls : Nat → Nat → Nat} {st st' sm sm' : jS}
/-- the class's rows that no answer but one call's uses may hold anything -/
theorem kD_congr (hc : ∀ a, a ≠ 8 → a ≠ 10 → a ≠ 11 → st' a = st a) (hk : kD K F n b h num wid ord tau gx gy gr lr ll ls st) : kD K F n b h num wid ord tau gx gy gr lr ll ls st' := by
  obtain ⟨h0, h1, h2, h3, h4, h5, h6, h7, h8, h9, h10⟩ := hk
  refine ⟨?_, ?_, ?_, ?_, ?_, ?_, ?_, ?_, ?_, ?_, ?_⟩
  · rw [hc 0 (by omega) (by omega) (by omega)]; exact h0
  · rw [hc 1 (by omega) (by omega) (by omega)]; exact h1
  · rw [hc 2 (by omega) (by omega) (by omega)]; exact h2
  · rw [hc 3 (by omega) (by omega) (by omega)]; exact h3
  · rw [hc 6 (by omega) (by omega) (by omega)]; exact h4
  · rw [hc 7 (by omega) (by omega) (by omega)]; exact h5
  · intro e f he hf; rw [hc (15 + e) (by omega) (by omega) (by omega)]; exact h6 e f he hf
  · rw [hc 9 (by omega) (by omega) (by omega)]; exact h7
  · rw [hc 12 (by omega) (by omega) (by omega), hc 13 (by omega) (by omega) (by omega)]; exact h8
  · intro i k hi hk; rw [hc (39 + i) (by omega) (by omega) (by omega)]; exact h9 i k hi hk
  · intro k hk; rw [hc (51 + 3 * k) (by omega) (by omega) (by omega), hc (52 + 3 * k) (by omega) (by omega) (by omega), hc (53 + 3 * k) (by omega) (by omega) (by omega)]; exact h10 k hk
/-- so may the reference's row of groups, and what it says was thrown -/
theorem mD_congr (hc : ∀ a, a ≠ 0 → a ≠ 11 → sm' a = sm a) (h0 : ∀ j, j ≠ 0 → sm' 0 j = sm 0 j) (hm : mD K F n b h num wid ord tau gx gy gr lr ll ls sm) : mD K F n b h num wid ord tau gx gy gr lr ll ls sm' := by
  obtain ⟨m0, m1, m2, m3, m4, m5, m6, m7, m8⟩ := hm
  refine ⟨?_, ?_, ?_, ?_, ?_, ?_, ?_, ?_, ?_⟩
  · rw [h0 1 (by omega), h0 2 (by omega)]; exact m0
  · rw [h0 4 (by omega), h0 8 (by omega), h0 9 (by omega)]; exact m1
  · rw [hc 2 (by omega) (by omega)]; exact m2
  · rw [hc 1 (by omega) (by omega)]; exact m3
  · rw [hc 3 (by omega) (by omega)]; exact m4
  · rw [hc 4 (by omega) (by omega)]; exact m5
  · rw [hc 5 (by omega) (by omega), hc 6 (by omega) (by omega)]; exact m6
  · rw [hc 7 (by omega) (by omega)]; exact m7
  · rw [hc 8 (by omega) (by omega), hc 9 (by omega) (by omega), hc 10 (by omega) (by omega)]; exact m8
theorem mD_thr (x : Int32) (hm : mD K F n b h num wid ord tau gx gy gr lr ll ls sm) : mD K F n b h num wid ord tau gx gy gr lr ll ls (jq sm 0 0 x) :=
  mD_congr (fun a h1 _ => funext fun j => jq_o h1) (fun j hj => jq_p hj) hm
end RD
theorem Rl_init (K F : Nat) (hK1 : 1 ≤ K) (hK6 : K ≤ 6) (hF4 : 4 ≤ F) (hF11 : F ≤ 11) : Rl K F (kS0 K F) (mS0 K F) := by
  refine ⟨0, 1, 0, fun _ _ => 0, fun _ => 100, fun p => p, fun _ => 0, fun _ => 0, fun _ => 0, fun _ _ => 0, fun _ => 0, fun _ _ => 0, fun _ _ => 0, ?_, ?_, ?_⟩
  · have z1 : (-100 : Int) ≤ (0 : Int32).toInt := by decide
    have z2 : (0 : Int32).toInt ≤ 100 := by decide
    exact ⟨⟨hK1, hK6⟩, ⟨hF4, hF11⟩, by omega, by omega, by omega, fun _ _ => Nat.zero_le _, fun _ => ⟨show 1 ≤ 100 by omega, show 100 ≤ 1000 by omega⟩, fun i => Or.inr ⟨0, by omega, rfl⟩, ⟨fun p h => h, fun p q _ _ h => h⟩, fun i => ⟨⟨z1, z2⟩, ⟨z1, z2⟩⟩, fun _ _ => Nat.zero_le _, fun k => ⟨Nat.zero_le _, fun r h => absurd h (Nat.not_lt_zero _), fun r => ⟨Nat.zero_le _, Nat.zero_le _⟩, fun r h => absurd h (Nat.not_lt_zero _)⟩⟩
  · refine ⟨⟨rfl, rfl⟩, ⟨rfl, rfl⟩, ⟨rfl, rfl⟩, ⟨rfl, rfl⟩, fun i _ => rfl, fun f hf => ?_, fun e f he hf => ?_, fun p hp => ?_, fun i _ => ⟨rfl, rfl⟩, fun i k hi hk => ?_, fun k hk => ?_⟩
    · show fU (fun _ => 100) F f = _
      rw [fU_at, if_pos hf]; rfl
    · rw [Nat.add_comm]; rfl
    · show fU nI K p = _
      rw [fU_at, if_pos hp]
    · rw [Nat.add_comm]; rfl
    · rw [Nat.add_comm 51, Nat.add_comm 52, Nat.add_comm 53]
      exact ⟨rfl, fun r _ => ⟨rfl, rfl⟩⟩
  · refine ⟨⟨rfl, rfl⟩, ⟨rfl, rfl, rfl⟩, fun i _ => rfl, fun f hf => ?_, fun e f _ _ => rfl, fun p hp => ?_, fun i _ => ⟨rfl, rfl⟩, fun i k _ _ => rfl, fun k _ => ⟨rfl, fun r _ => ⟨rfl, rfl⟩⟩⟩
    · show fU (fun _ => 100) 11 f = _
      rw [fU_at, if_pos (by omega)]; rfl
    · show fU nI 6 p = _
      rw [fU_at, if_pos (by omega)]
