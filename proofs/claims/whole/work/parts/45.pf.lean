/-! ===== strength ===== -/
theorem xr_pos {A B : Int32} (hB : 0 ≤ B) : 0 ≤ (A ^^^ B) ↔ 0 ≤ A := by
  have P : ∀ x : Int32, 0 ≤ x ↔ x.toBitVec.msb = false := by
    intro x
    rw [Int32.le_iff_toInt_le, i32_0, BitVec.msb_eq_toInt]
    show 0 ≤ x.toInt ↔ decide (x.toInt < 0) = false
    rw [decide_eq_false_iff_not]
    omega
  rw [P, P, Int32.toBitVec_xor, BitVec.msb_xor, (P B).mp hB, Bool.xor_false]
/-- floorDiv by a number above 0 -/
def fdv (A B : Int32) : Int32 := if 0 ≤ A then A / B else if A / B * B = A then A / B else A / B - 1
theorem kx_fd {K F : Nat} {st : jS} {A B : Int32} {post : Int32 → jS → Prop} (h0 : ¬ B = 0) (hB : 0 ≤ B) (hp : post (fdv A B) st) : wp_Ma_floorDiv K F st A B post := by
  unfold wp_Ma_floorDiv
  rw [xr_pos hB]
  unfold fdv at hp
  refine ⟨h0, fun q => ?_, fun q => ⟨fun q1 => ?_, fun q1 => ?_⟩⟩
  · rw [if_pos q] at hp; exact hp
  · rw [if_neg q, if_pos q1] at hp; exact hp
  · rw [if_neg q, if_neg q1] at hp; exact hp
/-- between the points r and r + 1 -/
def ivl (l s : Nat → Nat) (x : Int32) (r : Nat) : Int32 := nI (s r) + fdv ((nI (s (r + 1)) - nI (s r)) * (x - nI (l r))) (nI (l (r + 1)) - nI (l r))
/-- the strength at x, of the m points from r on -/
def stv (l s : Nat → Nat) (x : Int32) : Nat → Nat → Int32
  | 0, _ => -1
  | m + 1, r => if nI (l r) < x then stv l s x m (r + 1) else if x = nI (l r) then nI (s r) else if r = 0 then -1 else ivl l s x (r - 1)
section SR
variable {K F n b h : Nat} {num : Nat → Nat → Nat} {wid ord : Nat → Nat} {tau gx gy : Nat → Int32} {gr : Nat → Nat → Nat} {lr : Nat → Nat} {ll ls : Nat → Nat → Nat} {st sm : jS}
theorem sb_ok (hv : vD K F n b h num wid ord tau gx gy gr lr ll ls) {k r : Nat} (hr : r + 1 < lr k) : ¬ nI (ll k (r + 1)) - nI (ll k r) = 0 ∧ 0 ≤ nI (ll k (r + 1)) - nI (ll k r) := by
  obtain ⟨c6, c1, cb, cs⟩ := hv.2.2.2.2.2.2.2.2.2.2.2 k
  have s := cs r hr
  have b1 := (cb (r + 1)).1
  rw [pk_sub (by omega)]
  exact ⟨nI_ne0 (by omega) (by omega), nI_pos' (by omega)⟩
theorem sb_1 (hv : vD K F n b h num wid ord tau gx gy gr lr ll ls) {k r : Nat} (hr : r + 1 < lr k) : (1 : Int32) ≤ nI (ll k (r + 1)) - nI (ll k r) := by
  obtain ⟨c6, c1, cb, cs⟩ := hv.2.2.2.2.2.2.2.2.2.2.2 k
  have s := cs r hr
  have b1 := (cb (r + 1)).1
  rw [pk_sub (by omega)]
  exact (nI_leI (a := 1) (by omega) (by omega)).mpr (by omega)
theorem kx_st {k : Nat} {x : Int32} {post : Int32 → jS → Prop} (hv : vD K F n b h num wid ord tau gx gy gr lr ll ls) (hk : kD K F n b h num wid ord tau gx gy gr lr ll ls st) (hk9 : k < K) (hp : post (stv (ll k) (ls k) x (lr k) 0) st) : wp_La_strengthAt K F k st x post := by
  obtain ⟨c6, c1, cb, cs⟩ := hv.2.2.2.2.2.2.2.2.2.2.2 k
  obtain ⟨hc, hl⟩ := hk.2.2.2.2.2.2.2.2.2.2 k hk9
  have L : ∀ m r, r + m = lr k → post (stv (ll k) (ls k) x m r) st → wp_La_strengthAt_2 K F k post (m + 1) st x (nI r) := by
    intro m
    induction m with
    | zero =>
      intro r hr hp
      have e : r = lr k := by omega
      subst e
      exact ⟨fun _ => hp, fun q => absurd (by rw [hc]; exact Int32.le_refl _) q⟩
    | succ m ih =>
      intro r hr hp
      unfold stv at hp
      have vr : vp_in (nI r) 6 := vp_in_nI (by omega) (by omega)
      refine ⟨fun q => absurd q (by rw [hc]; exact nI_ge (by omega) (by omega)), fun _ => ⟨vr, ?_⟩⟩
      rw [nI_clamp (by omega), (hl r (by omega)).1, (hl r (by omega)).2]
      refine ⟨fun q => ⟨vr, fun q1 => ?_, fun q1 => ?_⟩, fun q => ⟨vr, ?_⟩⟩
      · have lt : nI (ll k r) < x := by
          rw [Int32.le_iff_toInt_le] at q1
          rw [Int32.lt_iff_toInt_lt]
          have : x.toInt ≠ (nI (ll k r)).toInt := fun e => q (Int32.toInt_inj.mp e)
          omega
        rw [if_pos lt] at hp
        rw [nI_1]; exact ih (r + 1) (by omega) hp
      · have nlt : ¬ nI (ll k r) < x := fun z => q1 (by rw [Int32.le_iff_toInt_le]; rw [Int32.lt_iff_toInt_lt] at z; omega)
        rw [if_neg nlt, if_neg q] at hp
        refine ⟨fun q2 => ?_, fun q2 => ?_⟩
        · have r1 : 1 ≤ r := (nI_leI (a := 1) (by omega) (by omega)).mp q2
          obtain ⟨p, rfl⟩ : ∃ p, r = p + 1 := ⟨r - 1, by omega⟩
          rw [if_neg (by omega), Nat.add_sub_cancel] at hp
          unfold wp_La_strengthBefore
          have vp : vp_in (nI p) 6 := vp_in_nI (by omega) (by omega)
          rw [nI_pred, nI_clamp (show p + 1 < 2 ^ 31 by omega), nI_clamp (show p < 2 ^ 31 by omega), (hl p (by omega)).1, (hl p (by omega)).2, (hl (p + 1) (by omega)).1, (hl (p + 1) (by omega)).2]
          have B := sb_ok hv (k := k) (r := p) (by omega)
          exact ⟨vr, vp, vr, vp, vp, fun _ => ⟨vp, kx_fd B.1 B.2 hp⟩, fun q => absurd (sb_1 hv (k := k) (r := p) (by omega)) q⟩
        · have r1 : r = 0 := by
            have := mt (nI_leI (a := 1) (b := r) (by omega) (by omega)).mpr q2
            omega
          rw [if_pos r1] at hp; exact hp
      · rw [if_neg (by rw [q]; exact fun w => Int32.lt_irrefl w), if_pos q] at hp; exact hp
  exact ⟨lr k + 1, L (lr k) 0 (by omega) hp⟩
theorem stv_hi (l s : Nat → Nat) (x : Int32) (m : Nat) : ∀ r, (∀ i, i < r + m → nI (l i) < x) → stv l s x m r = -1 := by
  induction m with
  | zero => intro r _; rfl
  | succ m ih =>
    intro r hh
    unfold stv
    rw [if_pos (hh r (by omega))]
    exact ih (r + 1) (fun i hi => hh i (by omega))
theorem ll_mono (hv : vD K F n b h num wid ord tau gx gy gr lr ll ls) (k : Nat) {i j : Nat} (hij : i ≤ j) (hj : j < lr k) : ll k i ≤ ll k j := by
  obtain ⟨c6, c1, cb, cs⟩ := hv.2.2.2.2.2.2.2.2.2.2.2 k
  induction j with
  | zero => have e : i = 0 := by omega
            subst e; exact Nat.le_refl _
  | succ j ih =>
    by_cases e : i = j + 1
    · subst e; exact Nat.le_refl _
    · have := ih (by omega) (by omega)
      have := cs j hj
      omega
theorem mx_st {k : Nat} {x : Int32} {post : Int32 → jS → Prop} (hv : vD K F n b h num wid ord tau gx gy gr lr ll ls) (hm : mD K F n b h num wid ord tau gx gy gr lr ll ls sm) (hk9 : k < K) (hp : post (stv (ll k) (ls k) x (lr k) 0) sm) : wp_Mo_strengthAt sm (nI k) x post := by
  obtain ⟨c6, c1, cb, cs⟩ := hv.2.2.2.2.2.2.2.2.2.2.2 k
  obtain ⟨hc, hl⟩ := hm.2.2.2.2.2.2.2.2 k hk9
  have hK := hv.1.2
  have k6 : (6 : Int32) * nI k = nI (6 * k) := by rw [show (6 : Int32) = nI 6 from rfl, pk_mul]
  unfold wp_Mo_strengthAt
  rw [nI_clamp (show k < 2 ^ 31 by omega), hc, k6]
  refine ⟨vp_in_nI (by omega) (by omega), fun q => ?_, fun q => ?_⟩
  · have c0 : lr k = 0 := (nI_eq (b := 0) (by omega) (by omega)).mp q
    rw [c0] at hp; exact hp
  · have c0 : 0 < lr k := by
      rcases Nat.eq_zero_or_pos (lr k) with e | e
      · exact absurd (by rw [e]; rfl) q
      · exact e
    have l0 : sm 9 (6 * k) = nI (ll k 0) := (hl 0 (by omega)).1
    obtain ⟨c, ec⟩ : ∃ c, lr k = c + 1 := ⟨lr k - 1, by omega⟩
    rw [nI_clamp (show 6 * k < 2 ^ 31 by omega), l0]
    refine ⟨vp_in_nI (by omega) (by omega), fun q1 => ?_, fun q1 => ?_⟩
    · rw [ec] at hp
      unfold stv at hp
      have n1 : ¬ nI (ll k 0) < x := fun z => by rw [Int32.lt_iff_toInt_lt] at z q1; omega
      have n2 : ¬ x = nI (ll k 0) := fun z => by rw [z] at q1; exact Int32.lt_irrefl q1
      rw [if_neg n1, if_neg n2, if_pos rfl] at hp
      exact hp
    · rw [nI_add, ec, ← Nat.add_assoc, nI_pred, nI_clamp (show 6 * k + c < 2 ^ 31 by omega), (hl c (by omega)).1]
      refine ⟨vp_in_nI (by omega) (by omega), fun q2 => ?_, fun q2 => ?_⟩
      · have L : ∀ m r, r + m = c → (∀ i, i < r → nI (ll k i) < x) → post (stv (ll k) (ls k) x (m + 1) r) sm → wp_Mo_strengthAt_45 post (m + 1) sm (nI k) x (nI (c + 1)) (nI (6 * k + r)) := by
          have step : ∀ m r N, r ≤ c → post (stv (ll k) (ls k) x (m + 1) r) sm → (nI (ll k r) < x → post (stv (ll k) (ls k) x m (r + 1)) sm → wp_Mo_strengthAt_45 post N sm (nI k) x (nI (c + 1)) (nI (6 * k + r) + 1)) → wp_Mo_strengthAt_45 post (N + 1) sm (nI k) x (nI (c + 1)) (nI (6 * k + r)) := by
            intro m r N hr hp hn
            unfold stv at hp
            have vr : vp_in (nI (6 * k + r)) 36 := vp_in_nI (by omega) (by omega)
            refine ⟨vr, ?_⟩
            rw [nI_clamp (show 6 * k + r < 2 ^ 31 by omega), (hl r (by omega)).1, (hl r (by omega)).2]
            refine ⟨fun q3 => ⟨vr, fun q4 => ?_, fun q4 => ⟨vr, ?_⟩⟩, fun q3 => ?_⟩
            · have nlt : ¬ nI (ll k r) < x := fun z => by rw [Int32.le_iff_toInt_le] at q3; rw [Int32.lt_iff_toInt_lt] at z; omega
              have r0 : ¬ r = 0 := fun e => by
                subst e
                rw [Int32.le_iff_toInt_le] at q3
                rw [Int32.lt_iff_toInt_lt] at q1
                exact q4 (Int32.toInt_inj.mp (by omega))
              obtain ⟨p, rfl⟩ : ∃ p, r = p + 1 := ⟨r - 1, by omega⟩
              rw [if_neg nlt, if_neg q4, if_neg r0, Nat.add_sub_cancel] at hp
              have vp : vp_in (nI (6 * k + p)) 36 := vp_in_nI (by omega) (by omega)
              have B := sb_ok hv (k := k) (r := p) (by omega)
              rw [← Nat.add_assoc] at vr
              rw [← Nat.add_assoc, nI_pred, nI_clamp (show 6 * k + p < 2 ^ 31 by omega), (hl p (by omega)).1, (hl p (by omega)).2]
              refine ⟨vr, vp, vp, vr, vp, B.1, vp, ?_⟩
              unfold ivl fdv at hp
              refine ⟨fun q5 => ?_, fun q5 => ⟨fun q6 => ?_, fun q6 => ?_⟩⟩
              · rw [if_pos q5] at hp; exact hp
              · rw [if_neg q5, if_pos q6] at hp; exact hp
              · rw [if_neg q5, if_neg q6] at hp; exact hp
            · rw [if_neg (by rw [q4]; exact fun w => Int32.lt_irrefl w), if_pos q4] at hp; exact hp
            · have lt : nI (ll k r) < x := Int32.not_le.mp q3
              rw [if_pos lt] at hp
              exact hn lt hp
          intro m
          induction m with
          | zero =>
            intro r hr _ hp
            have e : r = c := by omega
            subst e
            refine step 0 r 0 (by omega) hp (fun z _ => ?_)
            exact absurd q2 (Int32.not_le.mpr z)
          | succ m ih =>
            intro r hr hb hp
            refine step (m + 1) r (m + 1) (by omega) hp (fun z hp2 => ?_)
            rw [nI_1, Nat.add_assoc]
            refine ih (r + 1) (by omega) (fun i hi => ?_) hp2
            by_cases e : i = r
            · rw [e]; exact z
            · exact hb i (by omega)
        rw [ec] at hp
        exact ⟨c + 1, L c 0 (by omega) (fun i hi => absurd hi (by omega)) hp⟩
      · rw [ec, stv_hi (ll k) (ls k) x (c + 1) 0 (fun i hi => ?_)] at hp
        · exact hp
        · have mo := ll_mono hv k (i := i) (j := c) (by omega) (by omega)
          have b1 := (cb c).1
          have lt := Int32.not_le.mp q2
          rw [Int32.lt_iff_toInt_lt, nI_toInt (by omega)] at lt ⊢
          omega
end SR
theorem p_21 (K F : Nat) : lOwe wc_21 K F (Rl K F) := by
  intro st f sm a1 a2 a3 a4 hR
  obtain ⟨n, b, h, num, wid, ord, tau, gx, gy, gr, lr, ll, ls, hv, hk, hm⟩ := id hR
  obtain ⟨v0, v1, v2, v3, v4, v5, v6, v7, v8, v9, v10, v11⟩ := id hv
  have hK9 : sm 0 1 = nI K := hm.1.1
  unfold wc_21 wp_Lw_strength wp_KT_strength
  rcases ix_cases a1 (n := K) (by omega) with hx | ⟨k, hk9, rfl⟩
  · refine nx_bad hk.1.1 hx ⟨rfl, ?_⟩
    show wp_Mo_strength sm a1 a2 _
    unfold wp_Mo_strength
    refine mk_0 hK9 (by omega) hx ⟨fun v => v = 1, ?_, fun q => absurd rfl q, fun _ => rfl⟩
    rintro v rfl
    exact th_p (by decide) (fin_x (by decide) hR)
  · refine nx_ok hk.1.1 hk9 (by omega) ⟨vp_in_nI hk9 (by omega), ?_⟩
    rw [nI_clamp (by omega)]
    refine kx_st hv hk hk9 ?_
    show wp_Mo_strength sm (nI k) a2 _
    unfold wp_Mo_strength
    refine mk_1 hK9 hk9 (by omega) ⟨fun v => v = 0, ?_, fun _ => rfl, fun q => absurd q (by decide)⟩
    rintro v rfl
    exact th_0 (mx_st hv (mD_thr 0 hm) hk9 (fin_v (f := f) (Rl_thr 0 hR) jq_s))
