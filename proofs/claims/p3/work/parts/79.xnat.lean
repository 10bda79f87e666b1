/-! THE CLASS's RECKONING over natural numbers: it is the reference's -/
theorem jx_sh : ∀ k, k < 32 → ((nI k &&& 31).toBitVec.smod 32).toNat = k := by decide
theorem jx_shr {a k : Nat} (ha : a < 2 ^ 31) (hk : k < 32) : nI a >>> (nI k &&& 31) = nI (a / 2 ^ k) := pk_shrN ha _ k (jx_sh k hk)
theorem jx_bL_N {a : Nat} (ha : a < 2 ^ 31) : ∀ f k, k + f = 31 → (∀ j, j < k → 2 ^ j < a + 1) → jx_bL (nI a) f k = jl_log (a + 1)
  | 0, k, hk, h => by
    rw [jx_bL]
    exact (jl_log_eq (by rw [show k = 31 by omega]; omega) h).symm
  | f + 1, k, hk, h => by
    rw [jx_bL, jx_shr ha (by omega)]
    have hp : 0 < 2 ^ k := Nat.two_pow_pos k
    have hle : a / 2 ^ k ≤ a := Nat.div_le_self _ _
    by_cases z : a / 2 ^ k = 0
    · rw [if_pos (by rw [z]; decide)]
      refine (jl_log_eq ?_ h).symm
      rcases Nat.lt_or_ge a (2 ^ k) with y | y
      · exact y
      · have := Nat.div_pos y hp; omega
    · rw [if_neg (nI_nle (Nat.pos_of_ne_zero z) (by omega))]
      refine jx_bL_N ha f (k + 1) (by omega) (fun j hj => ?_)
      rcases Nat.lt_or_ge j k with y | y
      · exact h j y
      · rw [show j = k by omega]
        rcases Nat.lt_or_ge a (2 ^ k) with y2 | y2
        · exact absurd (Nat.div_eq_of_lt y2) z
        · omega
theorem jx_bits_N {a : Nat} (ha : a < 2 ^ 31) : jx_bits (nI a) = nI (jl_log (a + 1)) := by
  unfold jx_bits
  rw [jx_bL_N ha 31 0 rfl (fun j hj => absurd hj (Nat.not_lt_zero j))]
theorem jx_dbl {n : Nat} (h1 : 1 ≤ n) (hn : n < 2 ^ 31) : jx_bits (nI n - 1) = nI (jl_log n) := by
  rw [show nI n - 1 = nI (n - 1) from pk_sub h1, jx_bits_N (by omega), show n - 1 + 1 = n by omega]
theorem jx_and1 (a : Nat) (ha : a < 2 ^ 31) : nI a &&& nI 1 = nI (a % 2) := pk_andN (by omega) 1 (by decide)
theorem jx_tL_N {n : Nat} (hn : n < 2 ^ 31) (h0 : 0 < n) : ∀ f k, k + f = 31 → (∀ g, jl_twos (g + k) n = k + jl_twos g (n / 2 ^ k)) → (∀ g, jl_odd (g + k) n = jl_odd g (n / 2 ^ k)) → 0 < n / 2 ^ k → jx_tL (nI n) f k = jl_twos 40 n ∧ nI n >>> (nI (jx_tL (nI n) f k) &&& 31) = nI (jl_odd 40 n)
  | 0, k, hk, ht, ho, hp => by
    have : n / 2 ^ k = 0 := Nat.div_eq_of_lt (by rw [show k = 31 by omega]; exact hn)
    omega
  | f + 1, k, hk, ht, ho, hp => by
    have hle : n / 2 ^ k ≤ n := Nat.div_le_self _ _
    rw [jx_tL, jx_shr hn (by omega), jx_and1 _ (by omega)]
    have h39 : 40 = (39 - k) + 1 + k := by omega
    by_cases z : n / 2 ^ k % 2 = 0
    · rw [if_pos (by rw [z]; decide)]
      have e : n / 2 ^ (k + 1) = n / 2 ^ k / 2 := by rw [Nat.pow_succ, Nat.div_div_eq_div_mul]
      refine jx_tL_N hn h0 f (k + 1) (by omega) (fun g => ?_) (fun g => ?_) (by rw [e]; omega)
      · rw [show g + (k + 1) = (g + 1) + k by omega, ht, jl_twos, if_pos z, e]; omega
      · rw [show g + (k + 1) = (g + 1) + k by omega, ho, jl_odd, if_pos z, e]
    · rw [if_neg (by rw [show n / 2 ^ k % 2 = 1 by omega]; decide)]
      refine ⟨?_, ?_⟩
      · rw [h39, ht, jl_twos, if_neg z]; rfl
      · rw [jx_shr hn (by omega), h39, ho, jl_odd, if_neg z]
theorem jx_twos_N {n : Nat} (h0 : 1 ≤ n) (hn : n < 2 ^ 31) : jx_twos (nI n) = nI (jl_twos 40 n) ∧ nI n >>> (jx_twos (nI n) &&& 31) = nI (jl_odd 40 n) := by
  have h := jx_tL_N hn h0 31 0 rfl (fun g => by rw [Nat.add_zero, Nat.pow_zero, Nat.div_one, Nat.zero_add]) (fun g => by rw [Nat.add_zero, Nat.pow_zero, Nat.div_one]) (by rw [Nat.pow_zero, Nat.div_one]; exact h0)
  unfold jx_twos
  exact ⟨by rw [h.1], h.2⟩
theorem jx_gL_N : ∀ (n f x y : Nat), x < 2 ^ 63 → y < 2 ^ n → n ≤ 63 → 2 * n ≤ f → jx_gL f (lN x) (lN y) = lN (Nat.gcd x y)
  | 0, f, x, y, hx, hy, hn, hf => by
    have hy0 : y = 0 := by rw [Nat.pow_zero] at hy; omega
    subst hy0
    cases f with
    | zero => rw [jx_gL, Nat.gcd_zero_right]
    | succ f => rw [jx_gL, if_pos rfl, Nat.gcd_zero_right]
  | n + 1, f, x, y, hx, hy, hn, hf => by
    obtain ⟨g, rfl⟩ : ∃ g, f = g + 2 := ⟨f - 2, by omega⟩
    have h63 : 2 ^ (n + 1) ≤ 2 ^ 63 := Nat.pow_le_pow_right (by decide) hn
    by_cases y0 : y = 0
    · subst y0
      rw [jx_gL, if_pos rfl, Nat.gcd_zero_right]
    · have hyp : 0 < y := Nat.pos_of_ne_zero y0
      rw [jx_gL, if_neg (fun z => y0 ((pk_lEQ (by omega) (by decide)).mp z)), pk_lRem hx hyp (by omega)]
      have r1 : x % y < y := Nat.mod_lt _ hyp
      by_cases z0 : x % y = 0
      · rw [z0, jx_gL, if_pos rfl, Nat.gcd_comm, Nat.gcd_rec, z0, Nat.gcd_zero_left]
      · have hzp : 0 < x % y := Nat.pos_of_ne_zero z0
        rw [jx_gL, if_neg (fun z => z0 ((pk_lEQ (by omega) (by decide)).mp z)), pk_lRem (by omega) hzp (by omega)]
        have r2 : y % (x % y) < x % y := Nat.mod_lt _ hzp
        have r3 : 2 * (y % (x % y)) < y := by
          have e := Nat.div_add_mod y (x % y)
          have d1 : 0 < y / (x % y) := Nat.div_pos (by omega) hzp
          have d2 : x % y ≤ x % y * (y / (x % y)) := Nat.le_mul_of_pos_right _ d1
          omega
        rw [jx_gL_N n g (x % y) (y % (x % y)) (by omega) (by rw [Nat.pow_succ] at hy; omega) (by omega) (by omega)]
        rw [Nat.gcd_comm x y, Nat.gcd_rec y x, Nat.gcd_comm (x % y) y, Nat.gcd_comm (x % y) (y % (x % y)), ← Nat.gcd_rec (x % y) y, Nat.gcd_comm (x % y) y]
theorem jx_gcd_N {x y : Nat} (hx : x < 2 ^ 63) (hy : y < 2 ^ 63) : jx_gcd (lN x) (lN y) = lN (Nat.gcd x y) := jx_gL_N 63 128 x y hx hy (Nat.le_refl _) (by decide)
theorem jq_lt {q : Nat} (h : q < 2 ^ 62) : jq q < 2 ^ 63 := by unfold jq; split <;> omega
theorem jq_pos (q : Nat) : 1 ≤ jq q := by unfold jq; split <;> omega
theorem jx_pr_N {a b : Nat} (ha : a < 2 ^ 62) (hb : b < 2 ^ 62) : jx_pr (lN (jq a)) (lN (jq b)) = lN (jq (jl_prod a b)) := by
  have a1 := jq_lt ha
  have b1 := jq_lt hb
  have a2 := jq_pos a
  have b2 := jq_pos b
  have i : (lN (jq a) < lN 1 ∨ lN (jq b) < lN 1 ∨ lN 4611686018427387903 / lN (jq b) < lN (jq a)) ↔ (jq a < 1 ∨ jq b < 1 ∨ 4611686018427387903 / jq b < jq a) := by
    rw [pk_lDiv (by decide) b2 b1, pk_lLT a1 (by decide), pk_lLT b1 (by decide), pk_lLT (by have := Nat.div_le_self 4611686018427387903 (jq b); omega) a1]
  unfold jx_pr jl_prod
  by_cases z : a = 0 ∨ b = 0
  · rw [if_pos z, if_pos]
    · rfl
    · refine i.mpr ?_
      rcases z with z | z
      · subst z
        refine Or.inr (Or.inr ?_)
        have : 4611686018427387903 / jq b ≤ 4611686018427387903 := Nat.div_le_self _ _
        show _ < 4611686018427387904
        omega
      · subst z
        refine Or.inr (Or.inr ?_)
        show 4611686018427387903 / 4611686018427387904 < jq a
        rw [show 4611686018427387903 / 4611686018427387904 = 0 from rfl]
        exact a2
  · have ea : jq a = a := by unfold jq; rw [if_neg (fun q => z (Or.inl q))]
    have eb : jq b = b := by unfold jq; rw [if_neg (fun q => z (Or.inr q))]
    rw [ea, eb] at i
    rw [if_neg z, ea, eb]
    by_cases y : a ≤ 4611686018427387903 / b
    · have hm : a * b ≤ 4611686018427387903 := by
        have := Nat.mul_le_mul_right b y
        have := Nat.div_mul_le_self 4611686018427387903 b
        omega
      have hp : 0 < a * b := Nat.mul_pos (by omega) (by omega)
      rw [if_pos y, if_neg (fun q => by have := i.mp q; omega), lN_mul]
      unfold jq
      rw [if_neg (by omega)]
    · rw [if_neg y, if_pos (i.mpr (Or.inr (Or.inr (by omega))))]
      rfl
theorem jx_lcm_N {a b : Nat} (ha1 : 1 ≤ a) (ha : a < 2 ^ 62) (hb1 : 1 ≤ b) (hb : b < 2 ^ 62) : jx_lcm (lN a) (lN b) = lN (jq (jl_comm a b)) := by
  unfold jx_lcm
  rw [jx_gcd_N (by omega) (by omega)]
  have g1 : 0 < Nat.gcd a b := Nat.gcd_pos_of_pos_left _ ha1
  have g2 : Nat.gcd a b ≤ a := Nat.gcd_le_left _ ha1
  rw [if_neg (fun q => by have := (pk_lLT (by omega) (by decide)).mp q; omega), pk_lDiv (by omega) g1 (by omega)]
  have d1 : 0 < a / Nat.gcd a b := Nat.div_pos g2 g1
  have d2 : a / Nat.gcd a b ≤ a := Nat.div_le_self _ _
  have h := jx_pr_N (a := a / Nat.gcd a b) (b := b) (by omega) hb
  rw [show jq (a / Nat.gcd a b) = a / Nat.gcd a b by unfold jq; rw [if_neg (by omega)], show jq b = b by unfold jq; rw [if_neg (by omega)]] at h
  rw [h]
  unfold jl_comm
  rw [if_neg (by omega), Nat.gcd_comm b a]
theorem jx_max {a b : Nat} (ha : a < 2 ^ 31) (hb : b < 2 ^ 31) : (if nI a < nI b then nI b else nI a) = nI (max a b) := by
  rcases Nat.lt_or_ge a b with z | z
  · rw [if_pos ((nI_ltI ha hb).mpr z), show max a b = b by omega]
  · rw [if_neg (fun q => by have := (nI_ltI ha hb).mp q; omega), show max a b = a by omega]
theorem jl_prod_comm (u v : Nat) : jl_prod u v = jl_prod v u := by
  unfold jl_prod
  by_cases z : u = 0 ∨ v = 0
  · rw [if_pos z, if_pos z.symm]
  · rw [if_neg z, if_neg (show ¬ (v = 0 ∨ u = 0) from fun q => z q.symm)]
    have e1 : u ≤ 4611686018427387903 / v ↔ u * v ≤ 4611686018427387903 := Nat.le_div_iff_mul_le (by omega)
    have e2 : v ≤ 4611686018427387903 / u ↔ v * u ≤ 4611686018427387903 := Nat.le_div_iff_mul_le (by omega)
    rw [Nat.mul_comm v u] at e2 ⊢
    by_cases y : u * v ≤ 4611686018427387903
    · rw [if_pos (e1.mpr y), if_pos (e2.mpr y)]
    · rw [if_neg (fun q => y (e1.mp q)), if_neg (fun q => y (e2.mp q))]
theorem jl_comm_comm (u v : Nat) : jl_comm u v = jl_comm v u := by
  unfold jl_comm
  by_cases z : u = 0 ∨ v = 0
  · rw [if_pos z, if_pos z.symm]
  · rw [if_neg z, if_neg (show ¬ (v = 0 ∨ u = 0) from fun q => z q.symm)]
    have hu : 0 < u := by omega
    have hv : 0 < v := by omega
    have g1 : 0 < Nat.gcd u v := Nat.gcd_pos_of_pos_left _ hu
    have e1 : u / Nat.gcd v u * v = Nat.lcm u v := by
      rw [Nat.gcd_comm v u, Nat.lcm, Nat.div_mul_right_comm (Nat.gcd_dvd_left u v)]
    have e2 : v / Nat.gcd u v * u = Nat.lcm u v := by
      rw [Nat.lcm, Nat.div_mul_right_comm (Nat.gcd_dvd_right u v), Nat.mul_comm v u]
    have d1 : 0 < u / Nat.gcd v u := by rw [Nat.gcd_comm]; exact Nat.div_pos (Nat.gcd_le_left _ hu) g1
    have d2 : 0 < v / Nat.gcd u v := Nat.div_pos (Nat.gcd_le_right _ hv) g1
    unfold jl_prod
    rw [if_neg (show ¬ (u / Nat.gcd v u = 0 ∨ v = 0) by omega), if_neg (show ¬ (v / Nat.gcd u v = 0 ∨ u = 0) by omega), e1, e2]
    have f1 : u / Nat.gcd v u ≤ 4611686018427387903 / v ↔ Nat.lcm u v ≤ 4611686018427387903 := by rw [Nat.le_div_iff_mul_le hv, e1]
    have f2 : v / Nat.gcd u v ≤ 4611686018427387903 / u ↔ Nat.lcm u v ≤ 4611686018427387903 := by rw [Nat.le_div_iff_mul_le hu, e2]
    by_cases y : Nat.lcm u v ≤ 4611686018427387903
    · rw [if_pos (f1.mpr y), if_pos (f2.mpr y)]
    · rw [if_neg (fun q => y (f1.mp q)), if_neg (fun q => y (f2.mp q))]
