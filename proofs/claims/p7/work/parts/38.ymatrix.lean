/-! THE REFERENCE: isTail, matrix -/
/-- the first k places are the same -/
def jl_eqT (f g : Nat → Nat) : Nat → Bool
  | 0 => true
  | k + 1 => jl_eqT f g k && decide (f k = g k)
theorem jl_eqT_iff {f g : Nat → Nat} {k : Nat} : jl_eqT f g k = true ↔ ∀ j, j < k → f j = g j := by
  induction k with
  | zero => exact ⟨fun _ j hj => absurd hj (Nat.not_lt_zero j), fun _ => rfl⟩
  | succ k ih =>
    rw [jl_eqT, Bool.and_eq_true, ih, decide_eq_true_iff]
    refine ⟨fun h j hj => ?_, fun h => ⟨fun j hj => h j (by omega), h k (by omega)⟩⟩
    rcases Nat.lt_or_ge j k with z | z
    · exact h.1 j z
    · rw [show j = k by omega]; exact h.2
/-- the shape b is the end of the shape a -/
def jl_tail (Sa : Nat → Nat) (ka : Nat) (Sb : Nat → Nat) (kb : Nat) : Bool := decide (kb ≤ ka) && jl_eqT (fun j => Sa (ka - kb + j)) Sb kb
theorem jl_tail_iff {Sa Sb : Nat → Nat} {ka kb : Nat} : jl_tail Sa ka Sb kb = true ↔ kb ≤ ka ∧ ∀ j, j < kb → Sa (ka - kb + j) = Sb j := by
  unfold jl_tail
  rw [Bool.and_eq_true, decide_eq_true_iff, jl_eqT_iff]
/-- a making where it fits, else WRONG -/
def jW (σ : jSt) (P : Prop) (J : Int32 → jSt → Prop) (x : Int32) (σ' : jSt) : Prop := (P → J x σ') ∧ (¬ P → x = -5 ∧ σ' = σ)
def jA_matrix (σ : jSt) (a b : Nat) (x : Int32) (σ' : jSt) : Prop := jW σ (((jT_k (jSt_T σ a) = 1 ∨ jT_k (jSt_T σ a) = 2) ∧ (jT_k (jSt_T σ b) = 1 ∨ jT_k (jSt_T σ b) = 2)) ∧ jT_S (jSt_T σ a) (jT_k (jSt_T σ a) - 1) = jT_S (jSt_T σ b) 0) (jA σ (fun k => if jT_k (jSt_T σ a) = 2 ∧ k = 0 then jT_S (jSt_T σ a) 0 else jT_S (jSt_T σ b) 1) ((jT_k (jSt_T σ a) - 1) + (jT_k (jSt_T σ b) - 1)) 43 (nI a) (nI b) (jT_S (jSt_T σ b) 0) (jT_r (jSt_T σ a) + jT_r (jSt_T σ b) + jl_log (jT_S (jSt_T σ b) 0)) (jT_e (jSt_T σ a) + jT_e (jSt_T σ b)) (jl_prod (jT_q (jSt_T σ a)) (jT_q (jSt_T σ b)))) x σ' 

section Y38
variable {l : Launch} {D : va_G} {H0 : Heap} {cI cJ cT cX : ClassId} {w : jb_W} {sz : Nat}
variable {y : Nat} {A : Nat → Nat} {n n2 : Nat} {σ : jSt} {th rk : Int32} {N : Nat → Int32}
theorem jn_isTail {a b : Nat} (h : jN cI cJ y A n n2 σ w th rk N) (hta : a < jSt_c σ) (htb : b < jSt_c σ) : jb_M l jy_Y_isTail jc_Y_isTail 5 (some .boolean) 1 22 0 0 D H0 (jt_all cI cJ cT cX) [.ref y, .int (nI a), .int (nI b)] w sz
    (fun v w' sz' => v = some (.int (if jl_tail (jT_S (jSt_T σ a)) (jT_k (jSt_T σ a)) (jT_S (jSt_T σ b)) (jT_k (jSt_T σ b)) = true then 1 else 0)) ∧ w' = w ∧ sz' = sz) := by
  refine jb_meth_z (by decide) (Nat.le_of_ble_eq_true rfl) (fun u C X E => ?_)
  have hn := h.cn
  obtain ⟨oa1, oa2, oa3, oa4, oa5, oa6, oa7, oa8, oa9, oa10⟩ := h.ok hta
  obtain ⟨ob1, ob2, ob3, ob4, ob5, ob6, ob7, ob8, ob9, ob10⟩ := h.ok htb
  refine ja_aload_n C jd_Y_isTail_0 0 rfl ?_
  refine jN_ga C jfl_rank jd_Y_isTail_1 h (fun _ _ => rfl) ?_
  refine ja_iload_n C jd_Y_isTail_4 1 rfl ?_
  refine jN_ia C (by decide) (fun _ _ => rfl) jd_Y_isTail_5 h hta (fun _ _ q => q.rank) ?_
  refine ja_aload_n C jd_Y_isTail_6 0 rfl ?_
  refine jN_ga C jfl_rank jd_Y_isTail_7 h (fun _ _ => rfl) ?_
  refine ja_iload_n C jd_Y_isTail_10 2 rfl ?_
  refine jN_ia C (by decide) (fun _ _ => rfl) jd_Y_isTail_11 h htb (fun _ _ q => q.rank) ?_
  rcases Nat.lt_or_ge (jT_k (jSt_T σ a)) (jT_k (jSt_T σ b)) with hlt | hge
  · refine ja_isub C jd_Y_isTail_12 ?_
    have hneg : nI (jT_k (jSt_T σ a)) - nI (jT_k (jSt_T σ b)) < 0 := pk_sneg (by omega) hlt
    refine ja_istore_n C [(3, .int ((nI (jT_k (jSt_T σ a))) - (nI (jT_k (jSt_T σ b))))), (0, .ref y), (1, .int (nI a)), (2, .int (nI b))] jd_Y_isTail_13 rfl (Nat.le_of_ble_eq_true rfl) rfl ?_
    refine ja_iconst C (nI 0) jd_Y_isTail_14 (by decide) ?_
    refine ja_istore C [(4, .int (nI 0)), (3, .int ((nI (jT_k (jSt_T σ a))) - (nI (jT_k (jSt_T σ b))))), (0, .ref y), (1, .int (nI a)), (2, .int (nI b))] jd_Y_isTail_15 (Nat.le_of_ble_eq_true rfl) rfl ?_
    refine ja_iload C jd_Y_isTail_17 0 rfl ?_
    refine ja_aload_n C jd_Y_isTail_19 2 rfl ?_
    refine jN_ga C jfl_rank jd_Y_isTail_20 h (fun _ _ => rfl) ?_
    refine ja_iload_n C jd_Y_isTail_23 4 rfl ?_
    refine jN_ia C (by decide) (fun _ _ => rfl) jd_Y_isTail_24 h htb (fun _ _ q => q.rank) ?_
    refine ja_icmp_geN C 59 jd_Y_isTail_25 (by decide) (by decide) (by omega) (fun c25 => absurd c25 (by omega)) (fun c25 => ?_)
    refine ja_iload_n C jd_Y_isTail_28 1 rfl ?_
    refine ja_if_lt C 59 jd_Y_isTail_29 (by decide) (fun c29 => ?_) (fun c29 => absurd hneg c29)
    refine ja_iload_n C jd_Y_isTail_59 1 rfl ?_
    refine ja_if_lt C 67 jd_Y_isTail_60 (by decide) (fun c60 => ?_) (fun c60 => absurd hneg c60)
    refine ja_iconst C (nI 0) jd_Y_isTail_67 (by decide) ?_
    exact E jd_Y_isTail_68 (Or.inl rfl) ⟨by rw [if_neg (fun z => by have := (jl_tail_iff.mp z).1; omega)]; rfl, rfl, rfl⟩
  · refine ja_isubN C jd_Y_isTail_12 (by omega) ?_
    refine ja_istore_n C [(3, .int (nI ((jT_k (jSt_T σ a)) - (jT_k (jSt_T σ b))))), (0, .ref y), (1, .int (nI a)), (2, .int (nI b))] jd_Y_isTail_13 rfl (Nat.le_of_ble_eq_true rfl) rfl ?_
    refine ja_iconst C (nI 0) jd_Y_isTail_14 (by decide) ?_
    refine ja_istore C [(4, .int (nI 0)), (3, .int (nI ((jT_k (jSt_T σ a)) - (jT_k (jSt_T σ b))))), (0, .ref y), (1, .int (nI a)), (2, .int (nI b))] jd_Y_isTail_15 (Nat.le_of_ble_eq_true rfl) rfl ?_
    have lp : ∀ (f k : Nat) (hk : k + f = jT_k (jSt_T σ b)) (hi : ∀ j, j < k → jT_S (jSt_T σ a) (jT_k (jSt_T σ a) - jT_k (jSt_T σ b) + j) = jT_S (jSt_T σ b) j), ja (jb_mk l (jb_rm 1 22 0 0) 5 "MeasuredTensorsModel" D H0 (jt_all cI cJ cT cX) u) w sz 0 0 17 [(4, .int (nI k)), (3, .int (nI (jT_k (jSt_T σ a) - jT_k (jSt_T σ b)))), (0, .ref y), (1, .int (nI a)), (2, .int (nI b))] [] := by
      intro f
      induction f with
      | zero =>
        intro k hk hi
        refine ja_iload C jd_Y_isTail_17 0 rfl ?_
        refine ja_aload_n C jd_Y_isTail_19 2 rfl ?_
        refine jN_ga C jfl_rank jd_Y_isTail_20 h (fun _ _ => rfl) ?_
        refine ja_iload_n C jd_Y_isTail_23 4 rfl ?_
        refine jN_ia C (by decide) (fun _ _ => rfl) jd_Y_isTail_24 h htb (fun _ _ q => q.rank) ?_
        refine ja_icmp_geN C 59 jd_Y_isTail_25 (by decide) (by omega) (by omega) (fun c25 => ?_) (fun c25 => absurd c25 (by omega))
        refine ja_iload_n C jd_Y_isTail_59 1 rfl ?_
        refine ja_if_ltN C 67 jd_Y_isTail_60 (by decide) (by omega) ?_
        refine ja_iconst C (nI 1) jd_Y_isTail_63 (by decide) ?_
        refine ja_goto C 68 jd_Y_isTail_64 (by decide) ?_
        exact E jd_Y_isTail_68 (Or.inr rfl) ⟨by rw [if_pos (jl_tail_iff.mpr ⟨hge, fun j hj => hi j (by omega)⟩)]; rfl, rfl, rfl⟩
      | succ f ih =>
        intro k hk hi
        have q1 := oa2 (jT_k (jSt_T σ a) - jT_k (jSt_T σ b) + k) (by omega)
        have q2 := ob2 k (by omega)
        refine ja_iload C jd_Y_isTail_17 0 rfl ?_
        refine ja_aload_n C jd_Y_isTail_19 2 rfl ?_
        refine jN_ga C jfl_rank jd_Y_isTail_20 h (fun _ _ => rfl) ?_
        refine ja_iload_n C jd_Y_isTail_23 4 rfl ?_
        refine jN_ia C (by decide) (fun _ _ => rfl) jd_Y_isTail_24 h htb (fun _ _ q => q.rank) ?_
        refine ja_icmp_geN C 59 jd_Y_isTail_25 (by decide) (by omega) (by omega) (fun c25 => absurd c25 (by omega)) (fun c25 => ?_)
        refine ja_iload_n C jd_Y_isTail_28 1 rfl ?_
        refine ja_if_ltN C 59 jd_Y_isTail_29 (by decide) (by omega) ?_
        refine ja_aload_n C jd_Y_isTail_32 2 rfl ?_
        refine ja_iload_n C jd_Y_isTail_33 3 rfl ?_
        refine ja_iload_n C jd_Y_isTail_34 1 rfl ?_
        refine ja_iload C jd_Y_isTail_35 0 rfl ?_
        refine ja_iaddN C jd_Y_isTail_37 ?_
        refine jN_pV 8 C X jk_side h rfl (jn_side h hta (by omega)) jd_Y_isTail_38 rfl rfl ⟨by decide, by decide⟩ (Nat.le_of_ble_eq_true rfl) ?_
        refine ja_aload_n C jd_Y_isTail_41 2 rfl ?_
        refine ja_iload_n C jd_Y_isTail_42 4 rfl ?_
        refine ja_iload C jd_Y_isTail_43 0 rfl ?_
        refine jN_pV 8 C X jk_side h rfl (jn_side h htb (by omega)) jd_Y_isTail_45 rfl rfl ⟨by decide, by decide⟩ (Nat.le_of_ble_eq_true rfl) ?_
        refine ja_icmp_eqN C 53 jd_Y_isTail_48 (by decide) (by omega) (by omega) (fun c48 => ?_) (fun c48 => ?_)
        · refine ja_iincN (c := 1) C [(4, .int (nI (k + 1))), (3, .int (nI (jT_k (jSt_T σ a) - jT_k (jSt_T σ b)))), (0, .ref y), (1, .int (nI a)), (2, .int (nI b))] jd_Y_isTail_53 0 rfl (by decide) (Nat.le_of_ble_eq_true rfl) rfl ?_
          refine ja_goto C 17 jd_Y_isTail_56 (by decide) ?_
          exact ih (k + 1) (by omega) (fun j hj => by rcases Nat.lt_or_ge j k with z | z; exact hi j z; rw [show j = k by omega]; exact c48)
        · refine ja_iconst C (nI 0) jd_Y_isTail_51 (by decide) ?_
          exact E jd_Y_isTail_52 (Or.inl rfl) ⟨by rw [if_neg (fun z => c48 ((jl_tail_iff.mp z).2 k (by omega)))]; rfl, rfl, rfl⟩
    exact lp (jT_k (jSt_T σ b)) 0 (Nat.zero_add _) (fun j hj => absurd hj (Nat.not_lt_zero j))
theorem jn_matrix {a b : Nat} (h : jN cI cJ y A n n2 σ w th rk N) (hct : jSt_c σ < 512) (hta : a < jSt_c σ) (htb : b < jSt_c σ) : jb_M l jy_Y_matrix jc_Y_matrix 5 (some .int) 4 144 16 9728 D H0 (jt_all cI cJ cT cX) [.ref y, .int (nI a), .int (nI b)] w sz
    (fun v w' sz' => ∃ (x : Int32) (σ' : jSt), v = some (.int x) ∧ jA_matrix σ a b x σ' ∧ jP cI cJ y A w sz σ' th w' sz') := by
  refine jb_meth_i (by decide) (Nat.le_of_ble_eq_true rfl) (fun u C X E => ?_)
  have hn := h.cn
  obtain ⟨oa1, oa2, oa3, oa4, oa5, oa6, oa7, oa8, oa9, oa10⟩ := h.ok hta
  obtain ⟨ob1, ob2, ob3, ob4, ob5, ob6, ob7, ob8, ob9, ob10⟩ := h.ok htb
  have b0 := ob2 0 (by decide)
  have b1 := ob2 1 (by decide)
  have a0 := oa2 0 (by decide)
  have bad : ∀ (hf : ¬ (((jT_k (jSt_T σ a) = 1 ∨ jT_k (jSt_T σ a) = 2) ∧ (jT_k (jSt_T σ b) = 1 ∨ jT_k (jSt_T σ b) = 2)) ∧ jT_S (jSt_T σ a) (jT_k (jSt_T σ a) - 1) = jT_S (jSt_T σ b) 0)), ja (jb_mk l (jb_rm 4 144 16 9728) 5 "MeasuredTensorsModel" D H0 (jt_all cI cJ cT cX) u) w sz 16 9728 72 [(0, .ref y), (1, .int (nI a)), (2, .int (nI b))] [] := by
    intro hf
    refine ja_bipush C (-5) jd_Y_matrix_72 (by decide) ?_
    exact E jd_Y_matrix_74 ⟨-5, σ, rfl, ⟨fun z => absurd z hf, fun _ => ⟨rfl, rfl⟩⟩, h.jP jR.rf⟩
  have bad3 : ∀ (hf : ¬ (((jT_k (jSt_T σ a) = 1 ∨ jT_k (jSt_T σ a) = 2) ∧ (jT_k (jSt_T σ b) = 1 ∨ jT_k (jSt_T σ b) = 2)) ∧ jT_S (jSt_T σ a) (jT_k (jSt_T σ a) - 1) = jT_S (jSt_T σ b) 0)), ja (jb_mk l (jb_rm 4 144 16 9728) 5 "MeasuredTensorsModel" D H0 (jt_all cI cJ cT cX) u) w sz 16 9728 46 [(3, .int (nI 0)), (0, .ref y), (1, .int (nI a)), (2, .int (nI b))] [] := by
    intro hf
    refine ja_iload_n C jd_Y_matrix_46 0 rfl ?_
    refine ja_if_eqN C 72 jd_Y_matrix_47 (by decide) (by decide) (fun _ => ?_) (fun q => absurd q (by decide))
    refine ja_bipush C (-5) jd_Y_matrix_72 (by decide) ?_
    exact E jd_Y_matrix_74 ⟨-5, σ, rfl, ⟨fun z => absurd z hf, fun _ => ⟨rfl, rfl⟩⟩, h.jP jR.rf⟩
  have no : ∀ (hf : ¬ (((jT_k (jSt_T σ a) = 1 ∨ jT_k (jSt_T σ a) = 2) ∧ (jT_k (jSt_T σ b) = 1 ∨ jT_k (jSt_T σ b) = 2)) ∧ jT_S (jSt_T σ a) (jT_k (jSt_T σ a) - 1) = jT_S (jSt_T σ b) 0)), ja (jb_mk l (jb_rm 4 144 16 9728) 5 "MeasuredTensorsModel" D H0 (jt_all cI cJ cT cX) u) w sz 16 9728 44 [(0, .ref y), (1, .int (nI a)), (2, .int (nI b))] [] := by
    intro hf
    refine ja_iconst C (nI 0) jd_Y_matrix_44 (by decide) ?_
    refine ja_istore_n C [(3, .int (nI 0)), (0, .ref y), (1, .int (nI a)), (2, .int (nI b))] jd_Y_matrix_45 rfl (Nat.le_of_ble_eq_true rfl) rfl ?_
    exact bad3 hf
  have fin : ∀ (w2 : jb_W) (N2 : Nat → Int32) (hh : jN cI cJ y A n n2 σ w2 th (nI ((jT_k (jSt_T σ a) - 1) + (jT_k (jSt_T σ b) - 1))) N2) (hM : ∀ k, k < (jT_k (jSt_T σ a) - 1) + (jT_k (jSt_T σ b) - 1) → N2 k = nI (if jT_k (jSt_T σ a) = 2 ∧ k = 0 then jT_S (jSt_T σ a) 0 else jT_S (jSt_T σ b) 1)) (hr : jR y A w w2) (hf : ((jT_k (jSt_T σ a) = 1 ∨ jT_k (jSt_T σ a) = 2) ∧ (jT_k (jSt_T σ b) = 1 ∨ jT_k (jSt_T σ b) = 2)) ∧ jT_S (jSt_T σ a) (jT_k (jSt_T σ a) - 1) = jT_S (jSt_T σ b) 0), ja (jb_mk l (jb_rm 4 144 16 9728) 5 "MeasuredTensorsModel" D H0 (jt_all cI cJ cT cX) u) w2 sz 16 9728 144 [(3, .int (nI 1)), (0, .ref y), (1, .int (nI a)), (2, .int (nI b))] [] := by
    intro w2 N2 hh hM hr hf
    have hlg := jl_log_le (m := jT_S (jSt_T σ b) 0) (by omega)
    refine ja_aload_n C jd_Y_matrix_144 1 rfl ?_
    refine ja_iload_n C jd_Y_matrix_145 3 rfl ?_
    refine ja_iconst C (nI 0) jd_Y_matrix_146 (by decide) ?_
    refine jN_pV 8 C X jk_side hh rfl (jn_side hh htb (by decide)) jd_Y_matrix_147 rfl rfl ⟨by decide, by decide⟩ (Nat.le_of_ble_eq_true rfl) ?_
    refine ja_istore C [(4, .int (nI (jT_S (jSt_T σ b) 0))), (3, .int (nI 1)), (0, .ref y), (1, .int (nI a)), (2, .int (nI b))] jd_Y_matrix_150 (Nat.le_of_ble_eq_true rfl) rfl ?_
    refine ja_aload_n C jd_Y_matrix_152 2 rfl ?_
    refine ja_bipush C (nI 43) jd_Y_matrix_153 (by decide) ?_
    refine ja_iload_n C jd_Y_matrix_155 3 rfl ?_
    refine ja_iload_n C jd_Y_matrix_156 4 rfl ?_
    refine ja_aload_n C jd_Y_matrix_157 2 rfl ?_
    refine jN_ga C jfl_range jd_Y_matrix_158 hh (fun _ _ => rfl) ?_
    refine ja_iload_n C jd_Y_matrix_161 3 rfl ?_
    refine jN_ia C (by decide) (fun _ _ => rfl) jd_Y_matrix_162 hh hta (fun _ _ q => q.range) ?_
    refine ja_aload_n C jd_Y_matrix_163 2 rfl ?_
    refine jN_ga C jfl_range jd_Y_matrix_164 hh (fun _ _ => rfl) ?_
    refine ja_iload_n C jd_Y_matrix_167 4 rfl ?_
    refine jN_ia C (by decide) (fun _ _ => rfl) jd_Y_matrix_168 hh htb (fun _ _ q => q.range) ?_
    refine ja_iaddN C jd_Y_matrix_169 ?_
    refine ja_iload C jd_Y_matrix_170 0 rfl ?_
    refine ja_i2lN C jd_Y_matrix_172 (by omega) ?_
    refine jb_pS 8 C X jk_log (jy_log (by omega)) jd_Y_matrix_173 rfl rfl ⟨by decide, by decide⟩ (Nat.le_of_ble_eq_true rfl) ?_
    refine ja_iaddN C jd_Y_matrix_176 ?_
    refine ja_i2lN C jd_Y_matrix_177 (by omega) ?_
    refine ja_aload_n C jd_Y_matrix_178 2 rfl ?_
    refine jN_ga C jfl_depth jd_Y_matrix_179 hh (fun _ _ => rfl) ?_
    refine ja_iload_n C jd_Y_matrix_182 3 rfl ?_
    refine jN_ia C (by decide) (fun _ _ => rfl) jd_Y_matrix_183 hh hta (fun _ _ q => q.depth) ?_
    refine ja_aload_n C jd_Y_matrix_184 2 rfl ?_
    refine jN_ga C jfl_depth jd_Y_matrix_185 hh (fun _ _ => rfl) ?_
    refine ja_iload_n C jd_Y_matrix_188 4 rfl ?_
    refine jN_ia C (by decide) (fun _ _ => rfl) jd_Y_matrix_189 hh htb (fun _ _ q => q.depth) ?_
    refine ja_iaddN C jd_Y_matrix_190 ?_
    refine ja_i2lN C jd_Y_matrix_191 (by omega) ?_
    refine ja_aload_n C jd_Y_matrix_192 2 rfl ?_
    refine jN_ga C jfl_odd jd_Y_matrix_193 hh (fun _ _ => rfl) ?_
    refine ja_iload_n C jd_Y_matrix_196 3 rfl ?_
    refine jN_la C jd_Y_matrix_197 hh hta ?_
    refine ja_aload_n C jd_Y_matrix_198 2 rfl ?_
    refine jN_ga C jfl_odd jd_Y_matrix_199 hh (fun _ _ => rfl) ?_
    refine ja_iload_n C jd_Y_matrix_202 4 rfl ?_
    refine jN_la C jd_Y_matrix_203 hh htb ?_
    refine jb_pS 8 C X jk_product (jy_product (by omega) (by omega)) jd_Y_matrix_204 rfl rfl ⟨by decide, by decide⟩ (Nat.le_of_ble_eq_true rfl) ?_
    refine ja_iload C jd_Y_matrix_207 0 rfl ?_
    refine jN_mV 8 C X jk_make hh rfl (jn_make hh hct (by omega) (by omega) (jl_prod_lt _ _) ⟨by omega, by omega⟩ (rn := (jT_k (jSt_T σ a) - 1) + (jT_k (jSt_T σ b) - 1)) (by omega) rfl (M := fun k => if jT_k (jSt_T σ a) = 2 ∧ k = 0 then jT_S (jSt_T σ a) 0 else jT_S (jSt_T σ b) 1) (fun k hk => ⟨hM k hk, by split <;> omega, by split <;> omega⟩) (by decide)) jd_Y_matrix_209 rfl rfl ⟨by decide, by decide⟩ (Nat.le_of_ble_eq_true rfl) (Nat.le_of_ble_eq_true rfl) (Nat.le_of_ble_eq_true rfl) (fun x1 σ1 w1 z1 hp1 => ?_)
    obtain ⟨ha1, hq1⟩ := hp1
    exact E jd_Y_matrix_212 ⟨x1, σ1, rfl, ⟨fun _ => ha1, fun z => absurd hf z⟩, jP.from hr hq1⟩
  have mid : ∀ (hf : ((jT_k (jSt_T σ a) = 1 ∨ jT_k (jSt_T σ a) = 2) ∧ (jT_k (jSt_T σ b) = 1 ∨ jT_k (jSt_T σ b) = 2)) ∧ jT_S (jSt_T σ a) (jT_k (jSt_T σ a) - 1) = jT_S (jSt_T σ b) 0), ja (jb_mk l (jb_rm 4 144 16 9728) 5 "MeasuredTensorsModel" D H0 (jt_all cI cJ cT cX) u) w sz 16 9728 75 [(3, .int (nI 1)), (0, .ref y), (1, .int (nI a)), (2, .int (nI b))] [] := by
    intro hf
    refine ja_aload_n C jd_Y_matrix_75 1 rfl ?_
    refine ja_iconst C (nI 0) jd_Y_matrix_76 (by decide) ?_
    refine jN_p5 C jd_Y_matrix_77 h (fun w2 h2 r2 => ?_)
    refine ja_aload_n C jd_Y_matrix_80 1 rfl ?_
    refine jN_ga C jfl_rank jd_Y_matrix_81 h2 (fun _ _ => rfl) ?_
    refine ja_iload_n C jd_Y_matrix_84 2 rfl ?_
    refine jN_ia C (by decide) (fun _ _ => rfl) jd_Y_matrix_85 h2 hta (fun _ _ q => q.rank) ?_
    refine ja_iconst C (nI 2) jd_Y_matrix_86 (by decide) ?_
    refine ja_icmp_neN C 112 jd_Y_matrix_87 (by decide) (by omega) (by decide) (fun ca => ?_) (fun ca => ?_)
    · refine ja_aload_n C jd_Y_matrix_112 1 rfl ?_
      refine jN_ga C jfl_rank jd_Y_matrix_113 h2 (fun _ _ => rfl) ?_
      refine ja_iload_n C jd_Y_matrix_116 3 rfl ?_
      refine jN_ia C (by decide) (fun _ _ => rfl) jd_Y_matrix_117 h2 htb (fun _ _ q => q.rank) ?_
      refine ja_iconst C (nI 2) jd_Y_matrix_118 (by decide) ?_
      refine ja_icmp_neN C 144 jd_Y_matrix_119 (by decide) (by omega) (by decide) (fun cb => ?_) (fun cb => ?_)
      · exact fin w2 _ (by rw [show jT_k (jSt_T σ a) - 1 + (jT_k (jSt_T σ b) - 1) = 0 by omega]; exact h2) (fun k hk => absurd hk (by omega)) r2 hf
      · refine ja_aload_n C jd_Y_matrix_122 1 rfl ?_
        refine jN_ga C jfl_newSides jd_Y_matrix_123 h2 (fun _ _ => rfl) ?_
        refine ja_aload_n C jd_Y_matrix_126 1 rfl ?_
        refine ja_dup C jd_Y_matrix_127 rfl ?_
        refine jN_gr C jd_Y_matrix_128 h2 ?_
        refine ja_dup_x1 C jd_Y_matrix_131 rfl rfl ?_
        refine ja_iconst C (nI 1) jd_Y_matrix_132 (by decide) ?_
        refine ja_iaddN C jd_Y_matrix_133 ?_
        refine jN_p5 C jd_Y_matrix_134 h2 (fun w3 h3 r3 => ?_)
        refine ja_aload_n C jd_Y_matrix_137 1 rfl ?_
        refine ja_iload_n C jd_Y_matrix_138 3 rfl ?_
        refine ja_iconst C (nI 1) jd_Y_matrix_139 (by decide) ?_
        refine jN_pV 8 C X jk_side h3 rfl (jn_side h3 htb (by decide)) jd_Y_matrix_140 rfl rfl ⟨by decide, by decide⟩ (Nat.le_of_ble_eq_true rfl) ?_
        refine jN_st C jd_Y_matrix_143 h3 (by decide) (fun w4 h4 r4 => ?_)
        exact fin w4 _ (by rw [show jT_k (jSt_T σ a) - 1 + (jT_k (jSt_T σ b) - 1) = 1 by omega]; exact h4) (fun k hk => by rw [show k = 0 by omega, pk_us, if_neg (by omega)]) (r2.tr (r3.tr r4)) hf
    · refine ja_aload_n C jd_Y_matrix_90 1 rfl ?_
      refine jN_ga C jfl_newSides jd_Y_matrix_91 h2 (fun _ _ => rfl) ?_
      refine ja_aload_n C jd_Y_matrix_94 1 rfl ?_
      refine ja_dup C jd_Y_matrix_95 rfl ?_
      refine jN_gr C jd_Y_matrix_96 h2 ?_
      refine ja_dup_x1 C jd_Y_matrix_99 rfl rfl ?_
      refine ja_iconst C (nI 1) jd_Y_matrix_100 (by decide) ?_
      refine ja_iaddN C jd_Y_matrix_101 ?_
      refine jN_p5 C jd_Y_matrix_102 h2 (fun w5 h5 r5 => ?_)
      refine ja_aload_n C jd_Y_matrix_105 1 rfl ?_
      refine ja_iload_n C jd_Y_matrix_106 2 rfl ?_
      refine ja_iconst C (nI 0) jd_Y_matrix_107 (by decide) ?_
      refine jN_pV 8 C X jk_side h5 rfl (jn_side h5 hta (by decide)) jd_Y_matrix_108 rfl rfl ⟨by decide, by decide⟩ (Nat.le_of_ble_eq_true rfl) ?_
      refine jN_st C jd_Y_matrix_111 h5 (by decide) (fun w6 h6 r6 => ?_)
      refine ja_aload_n C jd_Y_matrix_112 1 rfl ?_
      refine jN_ga C jfl_rank jd_Y_matrix_113 h6 (fun _ _ => rfl) ?_
      refine ja_iload_n C jd_Y_matrix_116 3 rfl ?_
      refine jN_ia C (by decide) (fun _ _ => rfl) jd_Y_matrix_117 h6 htb (fun _ _ q => q.rank) ?_
      refine ja_iconst C (nI 2) jd_Y_matrix_118 (by decide) ?_
      refine ja_icmp_neN C 144 jd_Y_matrix_119 (by decide) (by omega) (by decide) (fun cb => ?_) (fun cb => ?_)
      · exact fin w6 _ (by rw [show jT_k (jSt_T σ a) - 1 + (jT_k (jSt_T σ b) - 1) = 1 by omega]; exact h6) (fun k hk => by rw [show k = 0 by omega, pk_us, if_pos ⟨ca, rfl⟩]) (r2.tr (r5.tr r6)) hf
      · refine ja_aload_n C jd_Y_matrix_122 1 rfl ?_
        refine jN_ga C jfl_newSides jd_Y_matrix_123 h6 (fun _ _ => rfl) ?_
        refine ja_aload_n C jd_Y_matrix_126 1 rfl ?_
        refine ja_dup C jd_Y_matrix_127 rfl ?_
        refine jN_gr C jd_Y_matrix_128 h6 ?_
        refine ja_dup_x1 C jd_Y_matrix_131 rfl rfl ?_
        refine ja_iconst C (nI 1) jd_Y_matrix_132 (by decide) ?_
        refine ja_iaddN C jd_Y_matrix_133 ?_
        refine jN_p5 C jd_Y_matrix_134 h6 (fun w7 h7 r7 => ?_)
        refine ja_aload_n C jd_Y_matrix_137 1 rfl ?_
        refine ja_iload_n C jd_Y_matrix_138 3 rfl ?_
        refine ja_iconst C (nI 1) jd_Y_matrix_139 (by decide) ?_
        refine jN_pV 8 C X jk_side h7 rfl (jn_side h7 htb (by decide)) jd_Y_matrix_140 rfl rfl ⟨by decide, by decide⟩ (Nat.le_of_ble_eq_true rfl) ?_
        refine jN_st C jd_Y_matrix_143 h7 (by decide) (fun w8 h8 r8 => ?_)
        exact fin w8 _ (by rw [show jT_k (jSt_T σ a) - 1 + (jT_k (jSt_T σ b) - 1) = 2 by omega]; exact h8) (fun k hk => by rcases Nat.lt_or_ge k 1 with z | z; rw [show k = 0 by omega, pk_un (by decide), pk_us, if_pos ⟨ca, rfl⟩]; rw [show k = 1 by omega, pk_us, if_neg (by omega)]) (r2.tr (r5.tr (r6.tr (r7.tr r8)))) hf
  have gd : ∀ (hf : (jT_k (jSt_T σ a) = 1 ∨ jT_k (jSt_T σ a) = 2) ∧ (jT_k (jSt_T σ b) = 1 ∨ jT_k (jSt_T σ b) = 2)), ja (jb_mk l (jb_rm 4 144 16 9728) 5 "MeasuredTensorsModel" D H0 (jt_all cI cJ cT cX) u) w sz 16 9728 40 [(0, .ref y), (1, .int (nI a)), (2, .int (nI b))] [] := by
    intro hf
    have q1 := oa2 (jT_k (jSt_T σ a) - 1) (by omega)
    refine ja_iconst C (nI 1) jd_Y_matrix_40 (by decide) ?_
    refine ja_goto C 45 jd_Y_matrix_41 (by decide) ?_
    refine ja_istore_n C [(3, .int (nI 1)), (0, .ref y), (1, .int (nI a)), (2, .int (nI b))] jd_Y_matrix_45 rfl (Nat.le_of_ble_eq_true rfl) rfl ?_
    refine ja_iload_n C jd_Y_matrix_46 0 rfl ?_
    refine ja_if_eqN C 72 jd_Y_matrix_47 (by decide) (by decide) (fun q => absurd q (by decide)) (fun _ => ?_)
    refine ja_aload_n C jd_Y_matrix_50 1 rfl ?_
    refine ja_iload_n C jd_Y_matrix_51 2 rfl ?_
    refine ja_aload_n C jd_Y_matrix_52 1 rfl ?_
    refine jN_ga C jfl_rank jd_Y_matrix_53 h (fun _ _ => rfl) ?_
    refine ja_iload_n C jd_Y_matrix_56 2 rfl ?_
    refine jN_ia C (by decide) (fun _ _ => rfl) jd_Y_matrix_57 h hta (fun _ _ q => q.rank) ?_
    refine ja_iconst C (nI 1) jd_Y_matrix_58 (by decide) ?_
    refine ja_isubN C jd_Y_matrix_59 (by omega) ?_
    refine jN_pV 8 C X jk_side h rfl (jn_side h hta (by omega)) jd_Y_matrix_60 rfl rfl ⟨by decide, by decide⟩ (Nat.le_of_ble_eq_true rfl) ?_
    refine ja_aload_n C jd_Y_matrix_63 1 rfl ?_
    refine ja_iload_n C jd_Y_matrix_64 3 rfl ?_
    refine ja_iconst C (nI 0) jd_Y_matrix_65 (by decide) ?_
    refine jN_pV 8 C X jk_side h rfl (jn_side h htb (by decide)) jd_Y_matrix_66 rfl rfl ⟨by decide, by decide⟩ (Nat.le_of_ble_eq_true rfl) ?_
    refine ja_icmp_eqN C 75 jd_Y_matrix_69 (by decide) (by omega) (by omega) (fun c69 => ?_) (fun c69 => ?_)
    · exact mid ⟨hf, c69⟩
    · refine ja_bipush C (-5) jd_Y_matrix_72 (by decide) ?_
      exact E jd_Y_matrix_74 ⟨-5, σ, rfl, ⟨fun z => absurd z.2 c69, fun _ => ⟨rfl, rfl⟩⟩, h.jP jR.rf⟩
  have two : ∀ (hf : jT_k (jSt_T σ a) = 1 ∨ jT_k (jSt_T σ a) = 2), ja (jb_mk l (jb_rm 4 144 16 9728) 5 "MeasuredTensorsModel" D H0 (jt_all cI cJ cT cX) u) w sz 16 9728 20 [(0, .ref y), (1, .int (nI a)), (2, .int (nI b))] [] := by
    intro hf
    refine ja_aload_n C jd_Y_matrix_20 0 rfl ?_
    refine jN_ga C jfl_rank jd_Y_matrix_21 h (fun _ _ => rfl) ?_
    refine ja_iload_n C jd_Y_matrix_24 2 rfl ?_
    refine jN_ia C (by decide) (fun _ _ => rfl) jd_Y_matrix_25 h htb (fun _ _ q => q.rank) ?_
    refine ja_iconst C (nI 1) jd_Y_matrix_26 (by decide) ?_
    refine ja_icmp_eqN C 40 jd_Y_matrix_27 (by decide) (by omega) (by decide) (fun c1 => gd ⟨hf, Or.inl c1⟩) (fun c1 => ?_)
    refine ja_aload_n C jd_Y_matrix_30 0 rfl ?_
    refine jN_ga C jfl_rank jd_Y_matrix_31 h (fun _ _ => rfl) ?_
    refine ja_iload_n C jd_Y_matrix_34 2 rfl ?_
    refine jN_ia C (by decide) (fun _ _ => rfl) jd_Y_matrix_35 h htb (fun _ _ q => q.rank) ?_
    refine ja_iconst C (nI 2) jd_Y_matrix_36 (by decide) ?_
    refine ja_icmp_neN C 44 jd_Y_matrix_37 (by decide) (by omega) (by decide) (fun c2 => no (fun z => by omega)) (fun c2 => ?_)
    exact gd ⟨hf, Or.inr c2⟩
  refine ja_aload_n C jd_Y_matrix_0 0 rfl ?_
  refine jN_ga C jfl_rank jd_Y_matrix_1 h (fun _ _ => rfl) ?_
  refine ja_iload_n C jd_Y_matrix_4 1 rfl ?_
  refine jN_ia C (by decide) (fun _ _ => rfl) jd_Y_matrix_5 h hta (fun _ _ q => q.rank) ?_
  refine ja_iconst C (nI 1) jd_Y_matrix_6 (by decide) ?_
  refine ja_icmp_eqN C 20 jd_Y_matrix_7 (by decide) (by omega) (by decide) (fun c1 => two (Or.inl c1)) (fun c1 => ?_)
  refine ja_aload_n C jd_Y_matrix_10 0 rfl ?_
  refine jN_ga C jfl_rank jd_Y_matrix_11 h (fun _ _ => rfl) ?_
  refine ja_iload_n C jd_Y_matrix_14 1 rfl ?_
  refine jN_ia C (by decide) (fun _ _ => rfl) jd_Y_matrix_15 h hta (fun _ _ q => q.rank) ?_
  refine ja_iconst C (nI 2) jd_Y_matrix_16 (by decide) ?_
  refine ja_icmp_neN C 44 jd_Y_matrix_17 (by decide) (by omega) (by decide) (fun c2 => no (fun z => by omega)) (fun c2 => ?_)
  exact two (Or.inr c2)
end Y38
