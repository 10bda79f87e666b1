/-! THE CLASS's own reckoning -/
/-- the class's own reckoning, as it is written -/
def jx_bL (x : Int32) : Nat → Nat → Nat
  | 0, k => k
  | f + 1, k => if x >>> (nI k &&& 31) ≤ 0 then k else jx_bL x f (k + 1)
def jx_bits (x : Int32) : Int32 := nI (jx_bL x 31 0)
def jx_tL (x : Int32) : Nat → Nat → Nat
  | 0, k => k
  | f + 1, k => if (x >>> (nI k &&& 31)) &&& nI 1 = 0 then jx_tL x f (k + 1) else k
def jx_twos (x : Int32) : Int32 := nI (jx_tL x 31 0)
def jx_gL : Nat → Int64 → Int64 → Int64
  | 0, x, _ => x
  | f + 1, x, y => if y = lN 0 then x else jx_gL f y (x - x / y * y)
def jx_gcd (x y : Int64) : Int64 := jx_gL 128 x y
def jx_pr (a b : Int64) : Int64 := if a < lN 1 ∨ b < lN 1 ∨ lN 4611686018427387903 / b < a then lN 4611686018427387904 else a * b
def jx_lcm (a b : Int64) : Int64 := if jx_gcd a b < lN 1 then lN 4611686018427387904 else jx_pr (a / jx_gcd a b) b
def jx_times (a b : Int32) : Int32 := if b < nI 1 then nI 0 else a / b
theorem k3_lt {a b : Int64} (h : ¬ a ≤ b) : b < a := Int64.lt_iff_toInt_lt.mpr (Int.not_le.mp fun z => h (Int64.le_iff_toInt_le.mpr z))
theorem k3_nle {a b : Int64} (h : a < b) : ¬ b ≤ a := fun z => by have := Int64.lt_iff_toInt_lt.mp h; have := Int64.le_iff_toInt_le.mp z; omega
theorem k3_nlt {a b : Int64} (h : b ≤ a) : ¬ a < b := fun z => k3_nle z h
def jx_args (x : Int32) : Nat := if x < 0 ∨ 18 < x ∨ x = 11 then 0 else jl_wanted x.toNatClampNeg
theorem jk_X_76 : jb_KS "MeasuredTensors" 76 jy_X_bitsOf jc_X_bitsOf 2 (some .int) 1 := ⟨jw_in (by decide +kernel) (by decide +kernel), jw_in (by decide +kernel) (by decide +kernel), jw_in (by decide +kernel) (by decide +kernel), jw_in (by decide +kernel) (by decide +kernel), by decide +kernel⟩
theorem jq_X_353 : Cond.constantLong "MeasuredTensors" 353 (lN 4611686018427387904) ∈ jw_all := jw_in (by decide +kernel) (by decide +kernel)
theorem jq_X_364 : Cond.constantLong "MeasuredTensors" 364 (lN 4611686018427387903) ∈ jw_all := jw_in (by decide +kernel) (by decide +kernel)
theorem jk_X_361 : jb_KS "MeasuredTensors" 361 jy_X_greatestCommonDivisor jc_X_greatestCommonDivisor 11 (some .long) 2 := ⟨jw_in (by decide +kernel) (by decide +kernel), jw_in (by decide +kernel) (by decide +kernel), jw_in (by decide +kernel) (by decide +kernel), jw_in (by decide +kernel) (by decide +kernel), by decide +kernel⟩
theorem jk_X_366 : jb_KS "MeasuredTensors" 366 jy_X_productBelowBound jc_X_productBelowBound 4 (some .long) 2 := ⟨jw_in (by decide +kernel) (by decide +kernel), jw_in (by decide +kernel) (by decide +kernel), jw_in (by decide +kernel) (by decide +kernel), jw_in (by decide +kernel) (by decide +kernel), by decide +kernel⟩
section X67
variable {l : Launch} {D : va_G} {H0 : Heap} {cI cJ cT cX : ClassId} {w : jb_W} {sz : Nat}
theorem jx_bitsOf {x : Int32}  : jb_M l jy_X_bitsOf jc_X_bitsOf 2 (some .int) 0 0 0 0 D H0 (jt_all cI cJ cT cX) [.int x] w sz
    (fun v w' sz' => v = some (.int (jx_bits x)) ∧ w' = w ∧ sz' = sz) := by
  refine jb_meth_i (by decide) (Nat.le_of_ble_eq_true rfl) (fun u C X E => ?_)
  have lp : ∀ (f k : Nat) (hk : k + f = 31) (he : jx_bL x f k = jx_bL x 31 0), ja (jb_mk l (jb_rm 0 0 0 0) 2 "MeasuredTensors" D H0 (jt_all cI cJ cT cX) u) w sz 0 0 2 [(1, .int (nI k)), (0, .int x)] [] := by
    intro f
    induction f with
    | zero =>
      intro k hk he
      refine ja_iload_n C jd_X_bitsOf_2 0 rfl ?_
      refine ja_bipush C (nI 31) jd_X_bitsOf_3 (by decide) ?_
      refine ja_icmp_geN C 20 jd_X_bitsOf_5 (by decide) (by omega) (by decide) (fun c => ?_) (fun c => absurd c (by omega))
      refine ja_iload_n C jd_X_bitsOf_20 0 rfl ?_
      exact E jd_X_bitsOf_21 ⟨by unfold jx_bits; rw [← he]; rfl, rfl, rfl⟩
    | succ f ih =>
      intro k hk he
      rw [jx_bL] at he
      refine ja_iload_n C jd_X_bitsOf_2 0 rfl ?_
      refine ja_bipush C (nI 31) jd_X_bitsOf_3 (by decide) ?_
      refine ja_icmp_geN C 20 jd_X_bitsOf_5 (by decide) (by omega) (by decide) (fun c => absurd c (by omega)) (fun c => ?_)
      refine ja_iload_n C jd_X_bitsOf_8 1 rfl ?_
      refine ja_iload_n C jd_X_bitsOf_9 0 rfl ?_
      refine ja_ishr C jd_X_bitsOf_10 ?_
      refine ja_if_le C 20 jd_X_bitsOf_11 (by decide) (fun c2 => ?_) (fun c2 => ?_)
      · rw [if_pos c2] at he
        refine ja_iload_n C jd_X_bitsOf_20 0 rfl ?_
        exact E jd_X_bitsOf_21 ⟨by unfold jx_bits; rw [← he], rfl, rfl⟩
      · rw [if_neg c2] at he
        refine ja_iincN (c := 1) C [(1, .int (nI (k + 1))), (0, .int x)] jd_X_bitsOf_14 0 rfl (by decide) (Nat.le_of_ble_eq_true rfl) rfl ?_
        refine ja_goto C 2 jd_X_bitsOf_17 (by decide) ?_
        exact ih (k + 1) (by omega) he
  refine ja_iconst C (nI 0) jd_X_bitsOf_0 (by decide) ?_
  refine ja_istore_n C [(1, .int (nI 0)), (0, .int x)] jd_X_bitsOf_1 rfl (Nat.le_of_ble_eq_true rfl) rfl ?_
  exact lp 31 0 rfl rfl
theorem jx_twosIn {x : Int32}  : jb_M l jy_X_twosIn jc_X_twosIn 2 (some .int) 0 0 0 0 D H0 (jt_all cI cJ cT cX) [.int x] w sz
    (fun v w' sz' => v = some (.int (jx_twos x)) ∧ w' = w ∧ sz' = sz) := by
  refine jb_meth_i (by decide) (Nat.le_of_ble_eq_true rfl) (fun u C X E => ?_)
  have lp : ∀ (f k : Nat) (hk : k + f = 31) (he : jx_tL x f k = jx_tL x 31 0), ja (jb_mk l (jb_rm 0 0 0 0) 2 "MeasuredTensors" D H0 (jt_all cI cJ cT cX) u) w sz 0 0 2 [(1, .int (nI k)), (0, .int x)] [] := by
    intro f
    induction f with
    | zero =>
      intro k hk he
      refine ja_iload_n C jd_X_twosIn_2 0 rfl ?_
      refine ja_bipush C (nI 31) jd_X_twosIn_3 (by decide) ?_
      refine ja_icmp_geN C 22 jd_X_twosIn_5 (by decide) (by omega) (by decide) (fun c => ?_) (fun c => absurd c (by omega))
      refine ja_iload_n C jd_X_twosIn_22 0 rfl ?_
      exact E jd_X_twosIn_23 ⟨by unfold jx_twos; rw [← he]; rfl, rfl, rfl⟩
    | succ f ih =>
      intro k hk he
      rw [jx_tL] at he
      refine ja_iload_n C jd_X_twosIn_2 0 rfl ?_
      refine ja_bipush C (nI 31) jd_X_twosIn_3 (by decide) ?_
      refine ja_icmp_geN C 22 jd_X_twosIn_5 (by decide) (by omega) (by decide) (fun c => absurd c (by omega)) (fun c => ?_)
      refine ja_iload_n C jd_X_twosIn_8 1 rfl ?_
      refine ja_iload_n C jd_X_twosIn_9 0 rfl ?_
      refine ja_ishr C jd_X_twosIn_10 ?_
      refine ja_iconst C (nI 1) jd_X_twosIn_11 (by decide) ?_
      refine ja_iand C jd_X_twosIn_12 ?_
      refine ja_if_ne C 22 jd_X_twosIn_13 (by decide) (fun c2 => ?_) (fun c2 => ?_)
      · rw [if_neg c2] at he
        refine ja_iload_n C jd_X_twosIn_22 0 rfl ?_
        exact E jd_X_twosIn_23 ⟨by unfold jx_twos; rw [← he], rfl, rfl⟩
      · rw [if_pos c2] at he
        refine ja_iincN (c := 1) C [(1, .int (nI (k + 1))), (0, .int x)] jd_X_twosIn_16 0 rfl (by decide) (Nat.le_of_ble_eq_true rfl) rfl ?_
        refine ja_goto C 2 jd_X_twosIn_19 (by decide) ?_
        exact ih (k + 1) (by omega) he
  refine ja_iconst C (nI 0) jd_X_twosIn_0 (by decide) ?_
  refine ja_istore_n C [(1, .int (nI 0)), (0, .int x)] jd_X_twosIn_1 rfl (Nat.le_of_ble_eq_true rfl) rfl ?_
  exact lp 31 0 rfl rfl
theorem jx_doublingsTo {x : Int32}  : jb_M l jy_X_doublingsTo jc_X_doublingsTo 1 (some .int) 1 21 0 0 D H0 (jt_all cI cJ cT cX) [.int x] w sz
    (fun v w' sz' => v = some (.int (jx_bits (x - 1))) ∧ w' = w ∧ sz' = sz) := by
  refine jb_meth_i (by decide) (Nat.le_of_ble_eq_true rfl) (fun u C X E => ?_)
  refine ja_iload_n C jd_X_doublingsTo_0 0 rfl ?_
  refine ja_iconst C (nI 1) jd_X_doublingsTo_1 (by decide) ?_
  refine ja_isub C jd_X_doublingsTo_2 ?_
  refine jb_pS 8 C X jk_X_76 (jx_bitsOf) jd_X_doublingsTo_3 rfl rfl ⟨by decide, by decide⟩ (Nat.le_of_ble_eq_true rfl) ?_
  exact E jd_X_doublingsTo_6 ⟨rfl, rfl, rfl⟩
theorem jx_timesIn {x y : Int32}  : jb_M l jy_X_timesIn jc_X_timesIn 2 (some .int) 0 0 0 0 D H0 (jt_all cI cJ cT cX) [.int x, .int y] w sz
    (fun v w' sz' => v = some (.int (jx_times x y)) ∧ w' = w ∧ sz' = sz) := by
  refine jb_meth_i (by decide) (Nat.le_of_ble_eq_true rfl) (fun u C X E => ?_)
  refine ja_iload_n C jd_X_timesIn_0 1 rfl ?_
  refine ja_iconst C (nI 1) jd_X_timesIn_1 (by decide) ?_
  refine ja_icmp_ge C 9 jd_X_timesIn_2 (by decide) (fun c => ?_) (fun c => ?_)
  · refine ja_iload_n C jd_X_timesIn_9 0 rfl ?_
    refine ja_iload_n C jd_X_timesIn_10 1 rfl ?_
    refine ja_idiv C jd_X_timesIn_11 (fun z => by rw [z] at c; exact absurd c (by decide)) ?_
    exact E jd_X_timesIn_12 ⟨by unfold jx_times; rw [if_neg (k2_nlt c)], rfl, rfl⟩
  · refine ja_iconst C (nI 0) jd_X_timesIn_5 (by decide) ?_
    refine ja_goto C 12 jd_X_timesIn_6 (by decide) ?_
    exact E jd_X_timesIn_12 ⟨by unfold jx_times; rw [if_pos (k2_lt c)], rfl, rfl⟩
theorem jx_gcdOf {a b : Int64}  : jb_M l jy_X_greatestCommonDivisor jc_X_greatestCommonDivisor 11 (some .long) 0 0 0 0 D H0 (jt_all cI cJ cT cX) [.long a, .long b] w sz
    (fun v w' sz' => v = some (.long (jx_gcd a b)) ∧ w' = w ∧ sz' = sz) := by
  refine jb_meth_l (by decide) (Nat.le_of_ble_eq_true rfl) (fun u C X E => ?_)
  have lp : ∀ (f k : Nat) (x y : Int64) (hk : k + f = 128) (he : jx_gL f x y = jx_gcd a b), ja (jb_mk l (jb_rm 0 0 0 0) 11 "MeasuredTensors" D H0 (jt_all cI cJ cT cX) u) w sz 0 0 9 [(8, .int (nI k)), (6, .long y), (4, .long x), (0, .long a), (2, .long b)] [] := by
    intro f
    induction f with
    | zero =>
      intro k x y hk he
      refine ja_iload C jd_X_greatestCommonDivisor_9 0 rfl ?_
      refine ja_sipush C (nI 128) jd_X_greatestCommonDivisor_11 (by decide) ?_
      refine ja_icmp_geN C 45 jd_X_greatestCommonDivisor_14 (by decide) (by omega) (by decide) (fun c => ?_) (fun c => absurd c (by omega))
      refine ja_lload C jd_X_greatestCommonDivisor_45 2 rfl ?_
      exact E jd_X_greatestCommonDivisor_47 ⟨by rw [← he]; rfl, rfl, rfl⟩
    | succ f ih =>
      intro k x y hk he
      rw [jx_gL] at he
      refine ja_iload C jd_X_greatestCommonDivisor_9 0 rfl ?_
      refine ja_sipush C (nI 128) jd_X_greatestCommonDivisor_11 (by decide) ?_
      refine ja_icmp_geN C 45 jd_X_greatestCommonDivisor_14 (by decide) (by omega) (by decide) (fun c => absurd c (by omega)) (fun c => ?_)
      refine ja_lload C jd_X_greatestCommonDivisor_17 1 rfl ?_
      refine ja_lconst C (lN 0) jd_X_greatestCommonDivisor_19 (by decide) ?_
      refine ja_lcmp C jd_X_greatestCommonDivisor_20 ?_
      refine ja_if_eq C 45 jd_X_greatestCommonDivisor_21 (by decide) (fun c2 => ?_) (fun c2 => ?_)
      · rw [if_pos ((lg_cmp_eq _ _).mp c2)] at he
        refine ja_lload C jd_X_greatestCommonDivisor_45 2 rfl ?_
        exact E jd_X_greatestCommonDivisor_47 ⟨by rw [← he], rfl, rfl⟩
      · have c3 : ¬ y = lN 0 := fun z => c2 ((lg_cmp_eq _ _).mpr z)
        rw [if_neg c3] at he
        refine ja_lload C jd_X_greatestCommonDivisor_24 2 rfl ?_
        refine ja_lload C jd_X_greatestCommonDivisor_26 1 rfl ?_
        refine ja_lrem C jd_X_greatestCommonDivisor_28 c3 ?_
        refine ja_lstore C [(9, .long (x - x / y * y)), (8, .int (nI k)), (6, .long y), (4, .long x), (0, .long a), (2, .long b)] jd_X_greatestCommonDivisor_29 (Nat.le_of_ble_eq_true rfl) rfl ?_
        refine ja_lload C jd_X_greatestCommonDivisor_31 2 rfl ?_
        refine ja_lstore C [(4, .long y), (9, .long (x - x / y * y)), (8, .int (nI k)), (6, .long y), (0, .long a), (2, .long b)] jd_X_greatestCommonDivisor_33 (Nat.le_of_ble_eq_true rfl) rfl ?_
        refine ja_lload C jd_X_greatestCommonDivisor_35 1 rfl ?_
        refine ja_lstore C [(6, .long (x - x / y * y)), (4, .long y), (9, .long (x - x / y * y)), (8, .int (nI k)), (0, .long a), (2, .long b)] jd_X_greatestCommonDivisor_37 (Nat.le_of_ble_eq_true rfl) rfl ?_
        refine ja_iincN (c := 1) C [(8, .int (nI (k + 1))), (6, .long (x - x / y * y)), (4, .long y), (9, .long (x - x / y * y)), (0, .long a), (2, .long b)] jd_X_greatestCommonDivisor_39 3 rfl (by decide) (Nat.le_of_ble_eq_true rfl) rfl ?_
        refine ja_goto C 9 jd_X_greatestCommonDivisor_42 (by decide) ?_
        exact ja_pick [0, 1, 2, 4, 5] (ih (k + 1) y _ (by omega) he)
  refine ja_lload_n C jd_X_greatestCommonDivisor_0 0 rfl ?_
  refine ja_lstore C [(4, .long a), (0, .long a), (2, .long b)] jd_X_greatestCommonDivisor_1 (Nat.le_of_ble_eq_true rfl) rfl ?_
  refine ja_lload_n C jd_X_greatestCommonDivisor_3 2 rfl ?_
  refine ja_lstore C [(6, .long b), (4, .long a), (0, .long a), (2, .long b)] jd_X_greatestCommonDivisor_4 (Nat.le_of_ble_eq_true rfl) rfl ?_
  refine ja_iconst C (nI 0) jd_X_greatestCommonDivisor_6 (by decide) ?_
  refine ja_istore C [(8, .int (nI 0)), (6, .long b), (4, .long a), (0, .long a), (2, .long b)] jd_X_greatestCommonDivisor_7 (Nat.le_of_ble_eq_true rfl) rfl ?_
  exact lp 128 0 a b rfl rfl
theorem jx_prOf {a b : Int64}  : jb_M l jy_X_productBelowBound jc_X_productBelowBound 4 (some .long) 0 0 0 0 D H0 (jt_all cI cJ cT cX) [.long a, .long b] w sz
    (fun v w' sz' => v = some (.long (jx_pr a b)) ∧ w' = w ∧ sz' = sz) := by
  refine jb_meth_l (by decide) (Nat.le_of_ble_eq_true rfl) (fun u C X E => ?_)
  have big : ∀ (hf : a < lN 1 ∨ b < lN 1 ∨ lN 4611686018427387903 / b < a), ja (jb_mk l (jb_rm 0 0 0 0) 4 "MeasuredTensors" D H0 (jt_all cI cJ cT cX) u) w sz 0 0 22 [(0, .long a), (2, .long b)] [] := by
    intro hf
    refine ja_ldc2 C (lN 4611686018427387904) jq_X_353 jd_X_productBelowBound_22 ?_
    exact E jd_X_productBelowBound_25 ⟨by unfold jx_pr; rw [if_pos hf], rfl, rfl⟩
  refine ja_lload_n C jd_X_productBelowBound_0 0 rfl ?_
  refine ja_lconst C (lN 1) jd_X_productBelowBound_1 (by decide) ?_
  refine ja_lcmp C jd_X_productBelowBound_2 ?_
  refine ja_if_lt C 22 jd_X_productBelowBound_3 (by decide) (fun c1 => big (Or.inl ((lg_cmp_lt _ _).mp c1))) (fun c1 => ?_)
  refine ja_lload_n C jd_X_productBelowBound_6 1 rfl ?_
  refine ja_lconst C (lN 1) jd_X_productBelowBound_7 (by decide) ?_
  refine ja_lcmp C jd_X_productBelowBound_8 ?_
  refine ja_if_lt C 22 jd_X_productBelowBound_9 (by decide) (fun c2 => big (Or.inr (Or.inl ((lg_cmp_lt _ _).mp c2)))) (fun c2 => ?_)
  have h1 : ¬ a < lN 1 := fun z => c1 ((lg_cmp_lt _ _).mpr z)
  have h2 : ¬ b < lN 1 := fun z => c2 ((lg_cmp_lt _ _).mpr z)
  refine ja_lload_n C jd_X_productBelowBound_12 0 rfl ?_
  refine ja_ldc2 C (lN 4611686018427387903) jq_X_364 jd_X_productBelowBound_13 ?_
  refine ja_lload_n C jd_X_productBelowBound_16 1 rfl ?_
  refine ja_ldiv C jd_X_productBelowBound_17 (fun z => by rw [z] at h2; exact absurd h2 (by decide)) ?_
  refine ja_lcmp C jd_X_productBelowBound_18 ?_
  refine ja_if_le C 26 jd_X_productBelowBound_19 (by decide) (fun c3 => ?_) (fun c3 => ?_)
  · have h3 := (lg_cmp_le _ _).mp c3
    refine ja_lload_n C jd_X_productBelowBound_26 0 rfl ?_
    refine ja_lload_n C jd_X_productBelowBound_27 1 rfl ?_
    refine ja_lmul C jd_X_productBelowBound_28 ?_
    exact E jd_X_productBelowBound_29 ⟨by unfold jx_pr; rw [if_neg (fun z => z.elim h1 (fun z => z.elim h2 (fun z => k3_nle z h3)))], rfl, rfl⟩
  · exact big (Or.inr (Or.inr (k3_lt (fun z => c3 ((lg_cmp_le _ _).mpr z)))))
theorem jx_lcmOf {a b : Int64}  : jb_M l jy_X_leastCommonMultiple jc_X_leastCommonMultiple 6 (some .long) 1 30 0 0 D H0 (jt_all cI cJ cT cX) [.long a, .long b] w sz
    (fun v w' sz' => v = some (.long (jx_lcm a b)) ∧ w' = w ∧ sz' = sz) := by
  refine jb_meth_l (by decide) (Nat.le_of_ble_eq_true rfl) (fun u C X E => ?_)
  refine ja_lload_n C jd_X_leastCommonMultiple_0 0 rfl ?_
  refine ja_lload_n C jd_X_leastCommonMultiple_1 1 rfl ?_
  refine jb_pS 8 C X jk_X_361 (jx_gcdOf) jd_X_leastCommonMultiple_2 rfl rfl ⟨by decide, by decide⟩ (Nat.le_of_ble_eq_true rfl) ?_
  refine ja_lstore C [(4, .long (jx_gcd a b)), (0, .long a), (2, .long b)] jd_X_leastCommonMultiple_5 (Nat.le_of_ble_eq_true rfl) rfl ?_
  refine ja_lload C jd_X_leastCommonMultiple_7 0 rfl ?_
  refine ja_lconst C (lN 1) jd_X_leastCommonMultiple_9 (by decide) ?_
  refine ja_lcmp C jd_X_leastCommonMultiple_10 ?_
  refine ja_if_ge C 20 jd_X_leastCommonMultiple_11 (by decide) (fun c => ?_) (fun c => ?_)
  · have h1 : ¬ jx_gcd a b < lN 1 := k3_nlt ((lg_cmp_ge _ _).mp c)
    refine ja_lload_n C jd_X_leastCommonMultiple_20 1 rfl ?_
    refine ja_lload C jd_X_leastCommonMultiple_21 0 rfl ?_
    refine ja_ldiv C jd_X_leastCommonMultiple_23 (fun z => by rw [z] at h1; exact absurd h1 (by decide)) ?_
    refine ja_lload_n C jd_X_leastCommonMultiple_24 2 rfl ?_
    refine jb_pS 8 C X jk_X_366 (jx_prOf) jd_X_leastCommonMultiple_25 rfl rfl ⟨by decide, by decide⟩ (Nat.le_of_ble_eq_true rfl) ?_
    exact E jd_X_leastCommonMultiple_28 ⟨by unfold jx_lcm; rw [if_neg h1], rfl, rfl⟩
  · have h1 : jx_gcd a b < lN 1 := k3_lt (fun z => c ((lg_cmp_ge _ _).mpr z))
    refine ja_ldc2 C (lN 4611686018427387904) jq_X_353 jd_X_leastCommonMultiple_14 ?_
    refine ja_goto C 28 jd_X_leastCommonMultiple_17 (by decide) ?_
    exact E jd_X_leastCommonMultiple_28 ⟨by unfold jx_lcm; rw [if_pos h1], rfl, rfl⟩
theorem jx_least {x y : Int32}  : jb_M l jy_X_areInLeastTerms jc_X_areInLeastTerms 2 (some .boolean) 1 30 0 0 D H0 (jt_all cI cJ cT cX) [.int x, .int y] w sz
    (fun v w' sz' => v = some (.int (if jx_gcd x.toInt64 y.toInt64 = lN 1 then 1 else 0)) ∧ w' = w ∧ sz' = sz) := by
  refine jb_meth_z (by decide) (Nat.le_of_ble_eq_true rfl) (fun u C X E => ?_)
  refine ja_iload_n C jd_X_areInLeastTerms_0 0 rfl ?_
  refine ja_i2l C jd_X_areInLeastTerms_1 ?_
  refine ja_iload_n C jd_X_areInLeastTerms_2 1 rfl ?_
  refine ja_i2l C jd_X_areInLeastTerms_3 ?_
  refine jb_pS 8 C X jk_X_361 (jx_gcdOf) jd_X_areInLeastTerms_4 rfl rfl ⟨by decide, by decide⟩ (Nat.le_of_ble_eq_true rfl) ?_
  refine ja_lconst C (lN 1) jd_X_areInLeastTerms_7 (by decide) ?_
  refine ja_lcmp C jd_X_areInLeastTerms_8 ?_
  refine ja_if_ne C 16 jd_X_areInLeastTerms_9 (by decide) (fun c => ?_) (fun c => ?_)
  · refine ja_iconst C (nI 0) jd_X_areInLeastTerms_16 (by decide) ?_
    exact E jd_X_areInLeastTerms_17 (Or.inl rfl) ⟨by rw [if_neg (fun z => c ((lg_cmp_eq _ _).mpr z))]; rfl, rfl, rfl⟩
  · refine ja_iconst C (nI 1) jd_X_areInLeastTerms_12 (by decide) ?_
    refine ja_goto C 17 jd_X_areInLeastTerms_13 (by decide) ?_
    exact E jd_X_areInLeastTerms_17 (Or.inr rfl) ⟨by rw [if_pos ((lg_cmp_eq _ _).mp c)]; rfl, rfl, rfl⟩
theorem jx_isSide {x : Int32}  : jb_M l jy_X_isSide jc_X_isSide 1 (some .boolean) 0 0 0 0 D H0 (jt_all cI cJ cT cX) [.int x] w sz
    (fun v w' sz' => v = some (.int (if 1 ≤ x ∧ x ≤ 4096 then 1 else 0)) ∧ w' = w ∧ sz' = sz) := by
  refine jb_meth_z (by decide) (Nat.le_of_ble_eq_true rfl) (fun u C X E => ?_)
  have no : ∀ (hf : ¬ (1 ≤ x ∧ x ≤ 4096)), ja (jb_mk l (jb_rm 0 0 0 0) 1 "MeasuredTensors" D H0 (jt_all cI cJ cT cX) u) w sz 0 0 16 [(0, .int x)] [] := by
    intro hf
    refine ja_iconst C (nI 0) jd_X_isSide_16 (by decide) ?_
    exact E jd_X_isSide_17 (Or.inl rfl) ⟨by rw [if_neg hf]; rfl, rfl, rfl⟩
  refine ja_iload_n C jd_X_isSide_0 0 rfl ?_
  refine ja_iconst C (nI 1) jd_X_isSide_1 (by decide) ?_
  refine ja_icmp_lt C 16 jd_X_isSide_2 (by decide) (fun c1 => no (fun z => k2_nle c1 z.1)) (fun c1 => ?_)
  refine ja_iload_n C jd_X_isSide_5 0 rfl ?_
  refine ja_sipush C (nI 4096) jd_X_isSide_6 (by decide) ?_
  refine ja_icmp_gt C 16 jd_X_isSide_9 (by decide) (fun c2 => no (fun z => k2_nle c2 z.2)) (fun c2 => ?_)
  refine ja_iconst C (nI 1) jd_X_isSide_12 (by decide) ?_
  refine ja_goto C 17 jd_X_isSide_13 (by decide) ?_
  exact E jd_X_isSide_17 (Or.inr rfl) ⟨by rw [if_pos ⟨k2_le c1, k2_le c2⟩]; rfl, rfl, rfl⟩
theorem jx_whole {m x y : Int32}  : jb_M l jy_X_areWholeNumbers jc_X_areWholeNumbers 3 (some .boolean) 0 0 0 0 D H0 (jt_all cI cJ cT cX) [.int m, .int x, .int y] w sz
    (fun v w' sz' => v = some (.int (if ¬ (m < 0 ∨ 2 < m ∨ (0 < m ∧ x < 0) ∨ (1 < m ∧ y < 0)) then 1 else 0)) ∧ w' = w ∧ sz' = sz) := by
  refine jb_meth_z (by decide) (Nat.le_of_ble_eq_true rfl) (fun u C X E => ?_)
  have no : ∀ (hf : m < 0 ∨ 2 < m ∨ (0 < m ∧ x < 0) ∨ (1 < m ∧ y < 0)), ja (jb_mk l (jb_rm 0 0 0 0) 3 "MeasuredTensors" D H0 (jt_all cI cJ cT cX) u) w sz 0 0 31 [(0, .int m), (1, .int x), (2, .int y)] [] := by
    intro hf
    refine ja_iconst C (nI 0) jd_X_areWholeNumbers_31 (by decide) ?_
    exact E jd_X_areWholeNumbers_32 (Or.inl rfl) ⟨by rw [if_neg (fun z => z hf)]; rfl, rfl, rfl⟩
  refine ja_iload_n C jd_X_areWholeNumbers_0 0 rfl ?_
  refine ja_if_lt C 31 jd_X_areWholeNumbers_1 (by decide) (fun c1 => no (Or.inl c1)) (fun c1 => ?_)
  refine ja_iload_n C jd_X_areWholeNumbers_4 0 rfl ?_
  refine ja_iconst C (nI 2) jd_X_areWholeNumbers_5 (by decide) ?_
  refine ja_icmp_gt C 31 jd_X_areWholeNumbers_6 (by decide) (fun c2 => no (Or.inr (Or.inl c2))) (fun c2 => ?_)
  have k27 : ∀ (h1 : ¬ (0 < m ∧ x < 0)) (h2 : ¬ (1 < m ∧ y < 0)), ja (jb_mk l (jb_rm 0 0 0 0) 3 "MeasuredTensors" D H0 (jt_all cI cJ cT cX) u) w sz 0 0 27 [(0, .int m), (1, .int x), (2, .int y)] [] := by
    intro h1 h2
    refine ja_iconst C (nI 1) jd_X_areWholeNumbers_27 (by decide) ?_
    refine ja_goto C 32 jd_X_areWholeNumbers_28 (by decide) ?_
    exact E jd_X_areWholeNumbers_32 (Or.inr rfl) ⟨by rw [if_pos (fun z => z.elim c1 (fun z => z.elim c2 (fun z => z.elim h1 h2)))]; rfl, rfl, rfl⟩
  have k18 : ∀ (h1 : ¬ (0 < m ∧ x < 0)), ja (jb_mk l (jb_rm 0 0 0 0) 3 "MeasuredTensors" D H0 (jt_all cI cJ cT cX) u) w sz 0 0 18 [(0, .int m), (1, .int x), (2, .int y)] [] := by
    intro h1
    refine ja_iload_n C jd_X_areWholeNumbers_18 0 rfl ?_
    refine ja_iconst C (nI 2) jd_X_areWholeNumbers_19 (by decide) ?_
    refine ja_icmp_lt C 27 jd_X_areWholeNumbers_20 (by decide) (fun c3 => k27 h1 (fun z => by have a1 := Int32.lt_iff_toInt_lt.mp c3; have a2 := Int32.lt_iff_toInt_lt.mp z.1; exact absurd a2 (by show ¬ (1 : Int32).toInt < m.toInt; have e1 : (nI 2).toInt = 2 := rfl; have e2 : (1 : Int32).toInt = 1 := rfl; omega))) (fun c3 => ?_)
    refine ja_iload_n C jd_X_areWholeNumbers_23 2 rfl ?_
    refine ja_if_lt C 31 jd_X_areWholeNumbers_24 (by decide) (fun c4 => no (Or.inr (Or.inr (Or.inr ⟨by have a1 := Int32.le_iff_toInt_le.mp (k2_le c3); exact Int32.lt_iff_toInt_lt.mpr (by have e1 : (nI 2).toInt = 2 := rfl; have e2 : (1 : Int32).toInt = 1 := rfl; omega), c4⟩)))) (fun c4 => ?_)
    exact k27 h1 (fun z => c4 z.2)
  refine ja_iload_n C jd_X_areWholeNumbers_9 0 rfl ?_
  refine ja_iconst C (nI 1) jd_X_areWholeNumbers_10 (by decide) ?_
  refine ja_icmp_lt C 18 jd_X_areWholeNumbers_11 (by decide) (fun c3 => k18 (fun z => by have a1 := Int32.lt_iff_toInt_lt.mp c3; have a2 := Int32.lt_iff_toInt_lt.mp z.1; exact absurd a2 (by have e1 : (nI 1).toInt = 1 := rfl; have e2 : (0 : Int32).toInt = 0 := rfl; omega))) (fun c3 => ?_)
  refine ja_iload_n C jd_X_areWholeNumbers_14 1 rfl ?_
  refine ja_if_lt C 31 jd_X_areWholeNumbers_15 (by decide) (fun c4 => no (Or.inr (Or.inr (Or.inl ⟨by have a1 := Int32.le_iff_toInt_le.mp (k2_le c3); exact Int32.lt_iff_toInt_lt.mpr (by have e1 : (nI 1).toInt = 1 := rfl; have e2 : (0 : Int32).toInt = 0 := rfl; omega), c4⟩)))) (fun c4 => ?_)
  exact k18 (fun z => c4 z.2)
end X67
