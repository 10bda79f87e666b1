/-! THE REFERENCE'S NUMBERS: log, twos, oddPart, gcd, product, common, over Nat -/
/-- the least k with m ≤ 2^k -/
def jl_log (m : Nat) : Nat := if m ≤ 1 then 0 else Nat.log2 (m - 1) + 1
theorem jl_log_eq {m k : Nat} (h1 : m ≤ 2 ^ k) (h2 : ∀ j, j < k → 2 ^ j < m) : jl_log m = k := by
  unfold jl_log
  cases k with
  | zero => rw [if_pos (by simpa using h1)]
  | succ j =>
    have h3 := h2 j (Nat.lt_succ_self j)
    have h4 : 1 ≤ 2 ^ j := Nat.one_le_two_pow
    rw [if_neg (by omega)]
    have h5 : (m - 1).log2 = j := (Nat.log2_eq_iff (by omega)).mpr ⟨by omega, by omega⟩
    rw [h5]
theorem jk_2 : Cond.constantLong "MeasuredTensorsModel" 91 2 ∈ jw_all := jw_in (by decide +kernel) (by decide +kernel)
theorem jk_62 : Cond.constantLong "MeasuredTensorsModel" 93 4611686018427387903 ∈ jw_all := jw_in (by decide +kernel) (by decide +kernel)
theorem jl_1 : (1 : Int64) = lN 1 := by decide
theorem jl_2 : (2 : Int64) = lN 2 := by decide
theorem jl_0 : (0 : Int64) = lN 0 := by decide
section YM
variable {l : Launch} {D : va_G} {H0 : Heap} {tys : List (ClassId × FieldType)} {w : jb_W} {sz : Nat}
theorem jy_log {m : Nat} (hm : m ≤ 2 ^ 40) : jb_M l jy_Y_log jc_Y_log 5 (some .int) 0 0 0 0 D H0 tys [.long (lN m)] w sz (fun v w' sz' => v = some (.int (nI (jl_log m))) ∧ w' = w ∧ sz' = sz) := by
  refine jb_meth_i (by decide) (Nat.le_of_ble_eq_true rfl) (fun u C X E => ?_)
  have head : ∀ (f k : Nat), k + f = 41 → (∀ j, j < k → 2 ^ j < m) → ja (jb_mk l (jb_rm 0 0 0 0) 5 "MeasuredTensorsModel" D H0 tys u) w sz 0 0 4 [(3, .long (lN (2 ^ k))), (2, .int (nI k)), (0, .long (lN m))] [] := by
    intro f
    induction f with
    | zero =>
      intro k hk h
      have := h 40 (by omega)
      omega
    | succ f ih =>
      intro k hk h
      have hb : 2 ^ k ≤ 2 ^ 40 := Nat.pow_le_pow_right (by omega) (by omega)
      refine ja_lload_n C jd_Y_log_4 0 rfl ?_
      refine ja_lload_n C jd_Y_log_5 2 rfl ?_
      refine ja_lcmp C jd_Y_log_6 ?_
      refine ja_if_ge C 22 jd_Y_log_7 (by decide) (fun c_7 => ?_) (fun c_7 => ?_)
      · have hc := (pk_lLE (by omega) (by omega)).mp ((lg_cmp_ge _ _).mp c_7)
        refine ja_iload_n C jd_Y_log_22 1 rfl ?_
        exact E jd_Y_log_23 ⟨by rw [jl_log_eq hc h], rfl, rfl⟩
      · have hc : ¬ m ≤ 2 ^ k := fun z => c_7 ((lg_cmp_ge _ _).mpr ((pk_lLE (by omega) (by omega)).mpr z))
        refine ja_ldc2 C 2 jk_2 jd_Y_log_10 ?_
        refine ja_lload_n C jd_Y_log_13 0 rfl ?_
        refine ja_lmul C jd_Y_log_14 ?_
        refine ja_lstore_n C [(3, .long (2 * lN (2 ^ k))), (2, .int (nI k)), (0, .long (lN m))] jd_Y_log_15 rfl (Nat.le_of_ble_eq_true rfl) rfl ?_
        refine ja_iinc C (nI k + 1) [(2, .int (nI k + 1)), (3, .long (2 * lN (2 ^ k))), (0, .long (lN m))] jd_Y_log_16 1 rfl rfl (Nat.le_of_ble_eq_true rfl) rfl ?_
        refine ja_goto C 4 jd_Y_log_19 (by decide) ?_
        rw [jl_2, lN_mul, nI_1, show 2 * 2 ^ k = 2 ^ (k + 1) by omega]
        refine ja_lv (lv' := [(3, .long (lN (2 ^ (k + 1)))), (2, .int (nI (k + 1))), (0, .long (lN m))]) (by simp) ?_
        exact ih (k + 1) (by omega) (fun j hj => by
          rcases Nat.lt_succ_iff_lt_or_eq.mp hj with q | q
          · exact h j q
          · rw [q]; omega)
  refine ja_iconst C 0 jd_Y_log_0 (by decide) ?_
  refine ja_istore_n C [(2, .int 0), (0, .long (lN m))] jd_Y_log_1 rfl (Nat.le_of_ble_eq_true rfl) rfl ?_
  refine ja_lconst C 1 jd_Y_log_2 (by decide) ?_
  refine ja_lstore_n C [(3, .long 1), (2, .int 0), (0, .long (lN m))] jd_Y_log_3 rfl (Nat.le_of_ble_eq_true rfl) rfl ?_
  exact head 41 0 (by omega) (fun j hj => absurd hj (Nat.not_lt_zero j))
theorem jy_gcd {a b : Nat} (ha : a < 2 ^ 63) (hb : b < 2 ^ 63) : jb_M l jy_Y_gcd jc_Y_gcd 10 (some .long) 0 0 0 0 D H0 tys [.long (lN a), .long (lN b)] w sz (fun v w' sz' => v = some (.long (lN (Nat.gcd b a))) ∧ w' = w ∧ sz' = sz) := by
  refine jb_meth_l (by decide) (Nat.le_of_ble_eq_true rfl) (fun u C X E => ?_)
  have head : ∀ (f x y : Nat), y < f → x < 2 ^ 63 → y < 2 ^ 63 → Nat.gcd y x = Nat.gcd b a → ∀ lv : List (Nat × Value), lv[0]? = some (6, .long (lN y)) → lv[1]? = some (4, .long (lN x)) → ja (jb_mk l (jb_rm 0 0 0 0) 10 "MeasuredTensorsModel" D H0 tys u) w sz 0 0 6 lv [] := by
    intro f
    induction f with
    | zero => intro x y h; omega
    | succ f ih =>
      intro x y hf hx hy hg lv l0 l1
      refine ja_lv (lv' := [(6, .long (lN y)), (4, .long (lN x))]) (fun q hq => by
        simp only [List.mem_cons, List.not_mem_nil, or_false] at hq
        rcases hq with rfl | rfl
        · exact List.mem_of_getElem? l0
        · exact List.mem_of_getElem? l1) ?_
      refine ja_lload C jd_Y_gcd_6 0 rfl ?_
      refine ja_lconst C 0 jd_Y_gcd_8 (by decide) ?_
      refine ja_lcmp C jd_Y_gcd_9 ?_
      refine ja_if_le C 31 jd_Y_gcd_10 (by decide) (fun c_10 => ?_) (fun c_10 => ?_)
      · have hc : y = 0 := by
          have h1 := (lg_cmp_le _ _).mp c_10
          rw [jl_0] at h1
          have := (pk_lLE hy (by omega)).mp h1
          omega
        subst hc
        refine ja_lload C jd_Y_gcd_31 1 rfl ?_
        exact E jd_Y_gcd_33 ⟨by rw [← hg, Nat.gcd_zero_left], rfl, rfl⟩
      · have hc : 0 < y := by
          rcases Nat.eq_zero_or_pos y with h | h
          · subst h
            exact absurd ((lg_cmp_le _ _).mpr (by rw [jl_0]; exact (pk_lLE (by omega) (by omega)).mpr (Nat.le_refl 0))) c_10
          · exact h
        refine ja_lload C jd_Y_gcd_13 1 rfl ?_
        refine ja_lload C jd_Y_gcd_15 0 rfl ?_
        refine ja_lrem C jd_Y_gcd_17 (fun z => by rw [jl_0] at z; have := (pk_lEQ hy (by omega)).mp z; omega) ?_
        rw [pk_lRem hx hc hy]
        refine ja_lstore C [(8, .long (lN (x % y))), (6, .long (lN y)), (4, .long (lN x))] jd_Y_gcd_18 (Nat.le_of_ble_eq_true rfl) rfl ?_
        refine ja_lload C jd_Y_gcd_20 1 rfl ?_
        refine ja_lstore C [(4, .long (lN y)), (8, .long (lN (x % y))), (6, .long (lN y))] jd_Y_gcd_22 (Nat.le_of_ble_eq_true rfl) rfl ?_
        refine ja_lload C jd_Y_gcd_24 1 rfl ?_
        refine ja_lstore C [(6, .long (lN (x % y))), (4, .long (lN y)), (8, .long (lN (x % y)))] jd_Y_gcd_26 (Nat.le_of_ble_eq_true rfl) rfl ?_
        refine ja_goto C 6 jd_Y_gcd_28 (by decide) ?_
        have hm := Nat.mod_lt x hc
        exact ih y (x % y) (by omega) hy (by omega) (by rw [← hg, Nat.gcd_rec y x]) _ rfl rfl
  refine ja_lload_n C jd_Y_gcd_0 0 rfl ?_
  refine ja_lstore C [(4, .long (lN a)), (0, .long (lN a)), (2, .long (lN b))] jd_Y_gcd_1 (Nat.le_of_ble_eq_true rfl) rfl ?_
  refine ja_lload_n C jd_Y_gcd_3 2 rfl ?_
  refine ja_lstore C [(6, .long (lN b)), (4, .long (lN a)), (0, .long (lN a)), (2, .long (lN b))] jd_Y_gcd_4 (Nat.le_of_ble_eq_true rfl) rfl ?_
  exact head (b + 1) a b (by omega) ha hb rfl _ rfl rfl
end YM
/-- u v where it is below 2^62, else 0; 0 stands for too much -/
def jl_prod (u v : Nat) : Nat := if u = 0 ∨ v = 0 then 0 else if u ≤ 4611686018427387903 / v then u * v else 0
def jl_comm (u v : Nat) : Nat := if u = 0 ∨ v = 0 then 0 else jl_prod (u / Nat.gcd v u) v
theorem jl_prod_lt (u v : Nat) : jl_prod u v < 2 ^ 62 := by
  unfold jl_prod
  split
  · decide
  · split
    · rename_i h1 h2
      have hv : 0 < v := by omega
      have := (Nat.le_div_iff_mul_le hv).mp h2
      omega
    · decide
theorem jl_comm_lt (u v : Nat) : jl_comm u v < 2 ^ 62 := by
  unfold jl_comm
  split
  · decide
  · exact jl_prod_lt _ _
theorem jl_c0 {m : Nat} (hm : m < 2 ^ 63) : lg_cmp (lN m) 0 = 0 ↔ m = 0 := by
  rw [lg_cmp_eq, jl_0]
  exact pk_lEQ hm (by omega)
theorem jl_62 : (4611686018427387903 : Int64) = lN 4611686018427387903 := by decide
section YN
variable {l : Launch} {D : va_G} {H0 : Heap} {tys : List (ClassId × FieldType)} {w : jb_W} {sz : Nat}
theorem jy_product {a b : Nat} (ha : a < 2 ^ 62) (hb : b < 2 ^ 62) : jb_M l jy_Y_product jc_Y_product 4 (some .long) 0 0 0 0 D H0 tys [.long (lN a), .long (lN b)] w sz (fun v w' sz' => v = some (.long (lN (jl_prod a b))) ∧ w' = w ∧ sz' = sz) := by
  refine jb_meth_l (by decide) (Nat.le_of_ble_eq_true rfl) (fun u C X E => ?_)
  refine ja_lload_n C jd_Y_product_0 0 rfl ?_
  refine ja_lconst C 0 jd_Y_product_1 (by decide) ?_
  refine ja_lcmp C jd_Y_product_2 ?_
  have zero : a = 0 ∨ b = 0 → ja (jb_mk l (jb_rm 0 0 0 0) 4 "MeasuredTensorsModel" D H0 tys u) w sz 0 0 12 (lv_args 0 [.long (lN a), .long (lN b)]) [] := fun h => by
    refine ja_lconst C 0 jd_Y_product_12 (by decide) ?_
    exact E jd_Y_product_13 ⟨by unfold jl_prod; rw [if_pos h, jl_0], rfl, rfl⟩
  refine ja_if_eq C 12 jd_Y_product_3 (by decide) (fun c_3 => zero (Or.inl ((jl_c0 (by omega)).mp c_3))) (fun c_3 => ?_)
  refine ja_lload_n C jd_Y_product_6 1 rfl ?_
  refine ja_lconst C 0 jd_Y_product_7 (by decide) ?_
  refine ja_lcmp C jd_Y_product_8 ?_
  refine ja_if_ne C 14 jd_Y_product_9 (by decide) (fun c_9 => ?_) (fun c_9 => zero (Or.inr ((jl_c0 (by omega)).mp c_9)))
  have ha0 : a ≠ 0 := fun z => c_3 ((jl_c0 (by omega)).mpr z)
  have hb0 : b ≠ 0 := fun z => c_9 ((jl_c0 (by omega)).mpr z)
  refine ja_lload_n C jd_Y_product_14 0 rfl ?_
  refine ja_ldc2 C 4611686018427387903 jk_62 jd_Y_product_15 ?_
  refine ja_lload_n C jd_Y_product_18 1 rfl ?_
  refine ja_ldiv C jd_Y_product_19 (fun z => by rw [jl_0] at z; exact hb0 ((pk_lEQ (by omega) (by omega)).mp z)) ?_
  refine ja_lcmp C jd_Y_product_20 ?_
  rw [jl_62, pk_lDiv (by omega) (by omega) (by omega)]
  have hq : 4611686018427387903 / b ≤ 4611686018427387903 := Nat.div_le_self _ _
  refine ja_if_gt C 30 jd_Y_product_21 (by decide) (fun c_21 => ?_) (fun c_21 => ?_)
  · have hc := (pk_lLT (by omega) (by omega)).mp ((lg_cmp_gt _ _).mp c_21)
    refine ja_lconst C 0 jd_Y_product_30 (by decide) ?_
    exact E jd_Y_product_31 ⟨by unfold jl_prod; rw [if_neg (by omega), if_neg (by omega), jl_0], rfl, rfl⟩
  · have hc : a ≤ 4611686018427387903 / b := Nat.not_lt.mp fun z => c_21 ((lg_cmp_gt _ _).mpr ((pk_lLT (by omega) (by omega)).mpr z))
    refine ja_lload_n C jd_Y_product_24 0 rfl ?_
    refine ja_lload_n C jd_Y_product_25 1 rfl ?_
    refine ja_lmul C jd_Y_product_26 ?_
    refine ja_goto C 31 jd_Y_product_27 (by decide) ?_
    exact E jd_Y_product_31 ⟨by unfold jl_prod; rw [if_neg (by omega), if_pos hc, lN_mul], rfl, rfl⟩
theorem jk_gcd : jb_KS "MeasuredTensorsModel" 95 jy_Y_gcd jc_Y_gcd 10 (some .long) 2 := ⟨jw_in (by decide +kernel) (by decide +kernel), jw_in (by decide +kernel) (by decide +kernel), jw_in (by decide +kernel) (by decide +kernel), jw_in (by decide +kernel) (by decide +kernel), by decide +kernel⟩
theorem jk_product : jb_KS "MeasuredTensorsModel" 99 jy_Y_product jc_Y_product 4 (some .long) 2 := ⟨jw_in (by decide +kernel) (by decide +kernel), jw_in (by decide +kernel) (by decide +kernel), jw_in (by decide +kernel) (by decide +kernel), jw_in (by decide +kernel) (by decide +kernel), by decide +kernel⟩
theorem jy_common {a b : Nat} (ha : a < 2 ^ 62) (hb : b < 2 ^ 62) : jb_M l jy_Y_common jc_Y_common 4 (some .long) 1 29 0 0 D H0 tys [.long (lN a), .long (lN b)] w sz (fun v w' sz' => v = some (.long (lN (jl_comm a b))) ∧ w' = w ∧ sz' = sz) := by
  refine jb_meth_l (by decide) (Nat.le_of_ble_eq_true rfl) (fun u C X E => ?_)
  refine ja_lload_n C jd_Y_common_0 0 rfl ?_
  refine ja_lconst C 0 jd_Y_common_1 (by decide) ?_
  refine ja_lcmp C jd_Y_common_2 ?_
  have zero : a = 0 ∨ b = 0 → ja (jb_mk l (jb_rm 1 29 0 0) 4 "MeasuredTensorsModel" D H0 tys u) w sz 0 0 12 (lv_args 0 [.long (lN a), .long (lN b)]) [] := fun h => by
    refine ja_lconst C 0 jd_Y_common_12 (by decide) ?_
    refine ja_goto C 27 jd_Y_common_13 (by decide) ?_
    exact E jd_Y_common_27 ⟨by unfold jl_comm; rw [if_pos h, jl_0], rfl, rfl⟩
  refine ja_if_eq C 12 jd_Y_common_3 (by decide) (fun c_3 => zero (Or.inl ((jl_c0 (by omega)).mp c_3))) (fun c_3 => ?_)
  refine ja_lload_n C jd_Y_common_6 1 rfl ?_
  refine ja_lconst C 0 jd_Y_common_7 (by decide) ?_
  refine ja_lcmp C jd_Y_common_8 ?_
  refine ja_if_ne C 16 jd_Y_common_9 (by decide) (fun c_9 => ?_) (fun c_9 => zero (Or.inr ((jl_c0 (by omega)).mp c_9)))
  have ha0 : a ≠ 0 := fun z => c_3 ((jl_c0 (by omega)).mpr z)
  have hb0 : b ≠ 0 := fun z => c_9 ((jl_c0 (by omega)).mpr z)
  have hg0 : 0 < Nat.gcd b a := Nat.gcd_pos_of_pos_left a (by omega)
  have hg1 : Nat.gcd b a ≤ b := Nat.gcd_le_left a (by omega)
  refine ja_lload_n C jd_Y_common_16 0 rfl ?_
  refine ja_lload_n C jd_Y_common_17 0 rfl ?_
  refine ja_lload_n C jd_Y_common_18 1 rfl ?_
  refine jb_callS (kc := 0) (ks := 0) (mc := 0) (ms := 0) C X jk_gcd (jy_gcd (l := l) (D := D) (H0 := H0) (tys := tys) (w := w) (sz := sz) (show a < 2 ^ 63 by omega) (show b < 2 ^ 63 by omega)) jd_Y_common_19 rfl rfl ⟨by decide, by decide⟩ (Nat.le_of_ble_eq_true rfl) (fun v w' sz' hp => ?_)
  obtain ⟨rfl, rfl, rfl⟩ := hp
  show ja _ _ _ 0 0 22 _ [.long (lN (Nat.gcd b a)), .long (lN a)]
  refine ja_ldiv C jd_Y_common_22 (fun z => by rw [jl_0] at z; have := (pk_lEQ (by omega) (by omega)).mp z; omega) ?_
  rw [pk_lDiv (by omega) hg0 (by omega)]
  have hd : a / Nat.gcd b a ≤ a := Nat.div_le_self _ _
  refine ja_lload_n C jd_Y_common_23 1 rfl ?_
  refine jb_callS (kc := 0) (ks := 0) (mc := 0) (ms := 0) C X jk_product (jy_product (l := l) (D := D) (H0 := H0) (tys := tys) (w := w') (sz := sz') (show a / Nat.gcd b a < 2 ^ 62 by omega) hb) jd_Y_common_24 rfl rfl ⟨by decide, by decide⟩ (Nat.le_of_ble_eq_true rfl) (fun v w' sz' hp => ?_)
  obtain ⟨rfl, rfl, rfl⟩ := hp
  exact E jd_Y_common_27 ⟨by unfold jl_comm; rw [if_neg (by omega)], rfl, rfl⟩
end YN
/-- how often 2 divides m, and what remains (m above 0) -/
def jl_twos : Nat → Nat → Nat
  | 0, _ => 0
  | f + 1, m => if m % 2 = 0 then jl_twos f (m / 2) + 1 else 0
def jl_odd : Nat → Nat → Nat
  | 0, m => m
  | f + 1, m => if m % 2 = 0 then jl_odd f (m / 2) else m
theorem jl_twos_s {f m : Nat} (h0 : 0 < m) (h : m < 2 ^ f) : jl_twos (f + 1) m = jl_twos f m := by
  induction f generalizing m with
  | zero => omega
  | succ f ih =>
    rw [jl_twos]
    conv => rhs; rw [jl_twos]
    split
    · rw [ih (by omega) (by omega)]
    · rfl
theorem jl_odd_s {f m : Nat} (h0 : 0 < m) (h : m < 2 ^ f) : jl_odd (f + 1) m = jl_odd f m := by
  induction f generalizing m with
  | zero => omega
  | succ f ih =>
    rw [jl_odd]
    conv => rhs; rw [jl_odd]
    split
    · rw [ih (by omega) (by omega)]
    · rfl
theorem jl_r2 {m : Nat} (hm : m < 2 ^ 62) : lN m - lN m / 2 * 2 = lN (m % 2) := by
  rw [jl_2]
  exact pk_lRem (by omega) (by omega) (by omega)
theorem jl_d2 {m : Nat} (hm : m < 2 ^ 62) : lN m / 2 = lN (m / 2) := by
  rw [jl_2]
  exact pk_lDiv (by omega) (by omega) (by omega)
theorem jl_n2 : ¬ (2 : Int64) = 0 := by decide
section YO
variable {l : Launch} {D : va_G} {H0 : Heap} {tys : List (ClassId × FieldType)} {w : jb_W} {sz : Nat}
theorem jy_twos {m : Nat} (h0 : 0 < m) (hm : m < 2 ^ 40) : jb_M l jy_Y_twos jc_Y_twos 5 (some .int) 0 0 0 0 D H0 tys [.long (lN m)] w sz (fun v w' sz' => v = some (.int (nI (jl_twos 40 m))) ∧ w' = w ∧ sz' = sz) := by
  refine jb_meth_i (by decide) (Nat.le_of_ble_eq_true rfl) (fun u C X E => ?_)
  have head : ∀ (f k v : Nat), 0 < v → v < 2 ^ f → f ≤ 40 → k + jl_twos f v = jl_twos 40 m → ja (jb_mk l (jb_rm 0 0 0 0) 5 "MeasuredTensorsModel" D H0 tys u) w sz 0 0 4 [(3, .long (lN v)), (2, .int (nI k))] [] := by
    intro f
    induction f with
    | zero => intro k v h1 h2; omega
    | succ f ih =>
      intro k v h1 h2 h3 h4
      have hv : v < 2 ^ 40 := Nat.lt_of_lt_of_le h2 (Nat.pow_le_pow_right (by omega) h3)
      rw [jl_twos] at h4
      refine ja_lload_n C jd_Y_twos_4 0 rfl ?_
      refine ja_ldc2 C 2 jk_2 jd_Y_twos_5 ?_
      refine ja_lrem C jd_Y_twos_8 jl_n2 ?_
      rw [jl_r2 (by omega)]
      refine ja_lconst C 0 jd_Y_twos_9 (by decide) ?_
      refine ja_lcmp C jd_Y_twos_10 ?_
      refine ja_if_ne C 26 jd_Y_twos_11 (by decide) (fun c_11 => ?_) (fun c_11 => ?_)
      · have hc : ¬ v % 2 = 0 := fun z => c_11 ((jl_c0 (by omega)).mpr z)
        rw [if_neg hc] at h4
        refine ja_iload_n C jd_Y_twos_26 1 rfl ?_
        exact E jd_Y_twos_27 ⟨by rw [← h4]; rfl, rfl, rfl⟩
      · have hc : v % 2 = 0 := (jl_c0 (by omega)).mp c_11
        rw [if_pos hc] at h4
        refine ja_iinc C (nI k + 1) [(2, .int (nI k + 1)), (3, .long (lN v))] jd_Y_twos_14 1 rfl rfl (Nat.le_of_ble_eq_true rfl) rfl ?_
        refine ja_lload_n C jd_Y_twos_17 1 rfl ?_
        refine ja_ldc2 C 2 jk_2 jd_Y_twos_18 ?_
        refine ja_ldiv C jd_Y_twos_21 jl_n2 ?_
        rw [jl_d2 (by omega), nI_1]
        refine ja_lstore_n C [(3, .long (lN (v / 2))), (2, .int (nI (k + 1)))] jd_Y_twos_22 rfl (Nat.le_of_ble_eq_true rfl) rfl ?_
        refine ja_goto C 4 jd_Y_twos_23 (by decide) ?_
        exact ih (k + 1) (v / 2) (by omega) (by omega) (by omega) (by omega)
  refine ja_iconst C 0 jd_Y_twos_0 (by decide) ?_
  refine ja_istore_n C [(2, .int 0), (0, .long (lN m))] jd_Y_twos_1 rfl (Nat.le_of_ble_eq_true rfl) rfl ?_
  refine ja_lload_n C jd_Y_twos_2 1 rfl ?_
  refine ja_lstore_n C [(3, .long (lN m)), (2, .int 0), (0, .long (lN m))] jd_Y_twos_3 rfl (Nat.le_of_ble_eq_true rfl) rfl ?_
  refine ja_lv (lv' := [(3, .long (lN m)), (2, .int (nI 0))]) (by simp [nI_0]) ?_
  exact head 40 0 m h0 hm (by omega) (by omega)
theorem jy_oddPart {m : Nat} (h0 : 0 < m) (hm : m < 2 ^ 40) : jb_M l jy_Y_oddPart jc_Y_oddPart 4 (some .long) 0 0 0 0 D H0 tys [.long (lN m)] w sz (fun v w' sz' => v = some (.long (lN (jl_odd 40 m))) ∧ w' = w ∧ sz' = sz) := by
  refine jb_meth_l (by decide) (Nat.le_of_ble_eq_true rfl) (fun u C X E => ?_)
  have head : ∀ (f v : Nat), 0 < v → v < 2 ^ f → f ≤ 40 → jl_odd f v = jl_odd 40 m → ja (jb_mk l (jb_rm 0 0 0 0) 4 "MeasuredTensorsModel" D H0 tys u) w sz 0 0 2 [(2, .long (lN v))] [] := by
    intro f
    induction f with
    | zero => intro v h1 h2; omega
    | succ f ih =>
      intro v h1 h2 h3 h4
      have hv : v < 2 ^ 40 := Nat.lt_of_lt_of_le h2 (Nat.pow_le_pow_right (by omega) h3)
      rw [jl_odd] at h4
      refine ja_lload_n C jd_Y_oddPart_2 0 rfl ?_
      refine ja_ldc2 C 2 jk_2 jd_Y_oddPart_3 ?_
      refine ja_lrem C jd_Y_oddPart_6 jl_n2 ?_
      rw [jl_r2 (by omega)]
      refine ja_lconst C 0 jd_Y_oddPart_7 (by decide) ?_
      refine ja_lcmp C jd_Y_oddPart_8 ?_
      refine ja_if_ne C 21 jd_Y_oddPart_9 (by decide) (fun c_9 => ?_) (fun c_9 => ?_)
      · have hc : ¬ v % 2 = 0 := fun z => c_9 ((jl_c0 (by omega)).mpr z)
        rw [if_neg hc] at h4
        refine ja_lload_n C jd_Y_oddPart_21 0 rfl ?_
        exact E jd_Y_oddPart_22 ⟨by rw [← h4], rfl, rfl⟩
      · have hc : v % 2 = 0 := (jl_c0 (by omega)).mp c_9
        rw [if_pos hc] at h4
        refine ja_lload_n C jd_Y_oddPart_12 0 rfl ?_
        refine ja_ldc2 C 2 jk_2 jd_Y_oddPart_13 ?_
        refine ja_ldiv C jd_Y_oddPart_16 jl_n2 ?_
        rw [jl_d2 (by omega)]
        refine ja_lstore_n C [(2, .long (lN (v / 2)))] jd_Y_oddPart_17 rfl (Nat.le_of_ble_eq_true rfl) rfl ?_
        refine ja_goto C 2 jd_Y_oddPart_18 (by decide) ?_
        exact ih (v / 2) (by omega) (by omega) (by omega) h4
  refine ja_lload_n C jd_Y_oddPart_0 0 rfl ?_
  refine ja_lstore_n C [(2, .long (lN m)), (0, .long (lN m))] jd_Y_oddPart_1 rfl (Nat.le_of_ble_eq_true rfl) rfl ?_
  refine ja_lv (lv' := [(2, .long (lN m))]) (by simp) ?_
  exact head 40 m h0 hm (by omega) rfl
end YO
