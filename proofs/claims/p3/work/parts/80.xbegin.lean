/-! THE CLASS: begin -/
theorem jl_okS_iff {F : Nat → Int32} {r : Nat} : jl_okS F r = true ↔ ∀ j, j < r → 1 ≤ F j ∧ F j ≤ 4096 := by
  induction r with
  | zero => exact ⟨fun _ j hj => absurd hj (Nat.not_lt_zero j), fun _ => rfl⟩
  | succ r ih =>
    rw [jl_okS, Bool.and_eq_true, ih, decide_eq_true_iff]
    refine ⟨fun h j hj => ?_, fun h => ⟨fun j hj => h j (by omega), h r (by omega)⟩⟩
    rcases Nat.lt_or_ge j r with z | z
    · exact h.1 j z
    · rw [show j = r by omega]; exact h.2
theorem jl_take_iff {F : Nat → Int32} {r : Nat} (hr : r ≤ 4) : jl_take (nI r) F = 1 ↔ ∀ j, j < r → 1 ≤ F j ∧ F j ≤ 4096 := by
  unfold jl_take
  rw [if_neg (fun z => z.elim (nI_pos (by omega)) (fun z => by have := (nI_ltI (a := 4) (b := r) (by decide) (by omega)).mp z; omega)), nI_clamp (by omega), ← jl_okS_iff]
  split
  · rename_i q
    exact ⟨fun _ => q, fun _ => rfl⟩
  · rename_i q
    exact ⟨fun z => absurd z (by decide), fun z => absurd z q⟩
theorem jl_cells_ext {N N' : Nat → Nat} : ∀ {k : Nat}, (∀ j, j < k → N j = N' j) → jl_cells N k = jl_cells N' k
  | 0, _ => rfl
  | k + 1, h => by rw [jl_cells, jl_cells, jl_cells_ext (fun j hj => h j (by omega)), h k (by omega)]
theorem jl_long_ext {N N' : Nat → Nat} : ∀ {k : Nat}, (∀ j, j < k → N j = N' j) → jl_long N k = jl_long N' k
  | 0, _ => rfl
  | k + 1, h => by rw [jl_long, jl_long, jl_long_ext (fun j hj => h j (by omega)), h k (by omega)]
theorem jl_S_ext {N N' : Nat → Nat} {k : Nat} (h : ∀ j, j < k → N j = N' j) : jl_S N k = jl_S N' k := funext fun j => by
  unfold jl_S
  split
  · rename_i z; exact h j z
  · rfl
theorem jB.ext {σ σ' : jSt} {N N' : Nat → Nat} {rk : Nat} {what a b : Int32} {ad r e q : Nat} {ul : Nat × Nat} {x : Int32} (h : jB σ N rk what a b ad r e q ul x σ') (hN : ∀ j, j < rk → N j = N' j) : jB σ N' rk what a b ad r e q ul x σ' := by
  unfold jB jl_full at h ⊢
  rw [jl_cells_ext hN, jl_long_ext hN, jl_S_ext hN] at h
  exact h
theorem jXP.from {cI cT cX : ClassId} {x : Nat} {P : Nat → Prop} {w w1 : jb_W} {sz : Nat} {σ : jSt} {w' : jb_W} {sz' : Nat} (r : jXF P w w1) (p : jXP cI cT cX x P w1 sz σ w' sz') : jXP cI cT cX x P w sz σ w' sz' := by
  obtain ⟨P', q1, q2, q3, q4⟩ := p
  exact ⟨P', q1, q2, fun c hc hP => (q3 c hc hP).trans (r c hP), q4⟩
theorem jXd.jXP {cI cT cX : ClassId} {x : Nat} {P : Nat → Prop} {σ : jSt} {dr : Nat} {F G : Nat → Option Nat} {own : Nat → Nat} {fT : Nat → Nat → Int32} {ls : Int32} {w w1 : jb_W} {sz sz' k : Nat} {f : Nat → Int32} {m : Int32 × Int32 × Int64} {tm : Int32} (h : jXd cI cT cX x P σ dr F G own fT ls w1 k f m tm) (r : jXF P w w1) (hz : sz ≤ sz') : jXP cI cT cX x P w sz σ w1 sz' := ⟨P, fun _ q => Or.inl q, ⟨_, _, _, _, _, _, _, _, _, _, h⟩, fun c _ hP => r c hP, hz⟩
theorem jk_X_83 : jb_KV "MeasuredTensors" 83 jy_X_keepDraft jc_X_keepDraft 4 (some .int) 0 := ⟨jw_in (by decide +kernel) (by decide +kernel), jw_in (by decide +kernel) (by decide +kernel), jw_in (by decide +kernel) (by decide +kernel), jw_in (by decide +kernel) (by decide +kernel), jw_in (by decide +kernel) (by decide +kernel), by decide +kernel⟩
theorem jx_gcd_1 {u l : Nat} (hu : u < 2 ^ 31) (hl : l < 2 ^ 31) : jx_gcd (nI u).toInt64 (nI l).toInt64 = lN 1 ↔ Nat.gcd u l = 1 := by
  have g : Nat.gcd u l ≤ max u l := by
    rcases Nat.eq_zero_or_pos u with z | z
    · rw [z, Nat.gcd_zero_left]; omega
    · have := Nat.gcd_le_left l z; omega
  rw [nI_l hu, nI_l hl, jx_gcd_N (by omega) (by omega), pk_lEQ (by omega) (by decide)]
theorem jk_X_358 : jb_KS "MeasuredTensors" 358 jy_X_isSide jc_X_isSide 1 (some .boolean) 1 := ⟨jw_in (by decide +kernel) (by decide +kernel), jw_in (by decide +kernel) (by decide +kernel), jw_in (by decide +kernel) (by decide +kernel), jw_in (by decide +kernel) (by decide +kernel), by decide +kernel⟩
theorem jt9_54_52 : jx_ok "MeasuredTensors" 52 54 56 "java/lang/IllegalArgumentException" "p is not 0 .. 64" ["java/lang/RuntimeException", "java/lang/Exception"] := ⟨by decide +kernel, by decide +kernel, jw_in (by decide +kernel) (by decide +kernel), jw_in (by decide +kernel) (by decide +kernel), by decide +kernel, by decide +kernel, by decide +kernel⟩
theorem jp_X_40 : ja_FP jcl "MeasuredTensors" 40 4 6 .int := ⟨_, jt_X, rfl, by decide, jw_X, jw_in (by decide +kernel) (by decide +kernel), jf_X_ty, jf_X_nm, rfl⟩
theorem jnf_X_6 : ∀ r, jcl[4]? = some r → (r.2.1 6).2.2.2 = false := fun r h => by cases h; rfl
theorem jp_X_46 : ja_FP jcl "MeasuredTensors" 46 4 8 .int := ⟨_, jt_X, rfl, by decide, jw_X, jw_in (by decide +kernel) (by decide +kernel), jf_X_ty, jf_X_nm, rfl⟩
theorem jnf_X_8 : ∀ r, jcl[4]? = some r → (r.2.1 8).2.2.2 = false := fun r h => by cases h; rfl
theorem jp_X_49 : ja_FP jcl "MeasuredTensors" 49 4 9 .int := ⟨_, jt_X, rfl, by decide, jw_X, jw_in (by decide +kernel) (by decide +kernel), jf_X_ty, jf_X_nm, rfl⟩
theorem jnf_X_9 : ∀ r, jcl[4]? = some r → (r.2.1 9).2.2.2 = false := fun r h => by cases h; rfl
section X80
variable {l : Launch} {D : va_G} {H0 : Heap} {cI cJ cT cX : ClassId} {w : jb_W} {sz : Nat}
variable {x : Nat} {P : Nat → Prop} {σ : jSt} {dr : Nat} {F G : Nat → Option Nat} {own : Nat → Nat} {fT : Nat → Nat → Int32} {ls : Int32} {k : Nat} {f : Nat → Int32} {m : Int32 × Int32 × Int64} {tm : Int32}
theorem jx_areSides {n a b c d : Int32}  : jb_M l jy_X_areSides jc_X_areSides 5 (some .boolean) 1 20 0 0 D H0 (jt_all cI cJ cT cX) [.int n, .int a, .int b, .int c, .int d] w sz
    (fun v w' sz' => v = some (.int (if jl_take n (jl_F a b c d) = 1 then 1 else 0)) ∧ w' = w ∧ sz' = sz) := by
  refine jb_meth_z (by decide) (Nat.le_of_ble_eq_true rfl) (fun u C X E => ?_)
  have no0 : ∀ (hf : ¬ jl_take n (jl_F a b c d) = 1), ja (jb_mk l (jb_rm 1 20 0 0) 5 "MeasuredTensors" D H0 (jt_all cI cJ cT cX) u) w sz 0 0 62 [(0, .int n), (1, .int a), (2, .int b), (3, .int c), (4, .int d)] [] := by
    intro hf
    refine ja_iconst C (nI 0) jd_X_areSides_62 (by decide) ?_
    exact E jd_X_areSides_63 (Or.inl rfl) ⟨by rw [if_neg hf]; rfl, rfl, rfl⟩
  refine ja_iload_n C jd_X_areSides_0 0 rfl ?_
  refine ja_if_lt C 62 jd_X_areSides_1 (by decide) (fun c1 => no0 (fun z => by unfold jl_take at z; rw [if_pos (Or.inl c1)] at z; exact absurd z (by decide))) (fun c1 => ?_)
  refine ja_iload_n C jd_X_areSides_4 0 rfl ?_
  refine ja_iconst C (nI 4) jd_X_areSides_5 (by decide) ?_
  refine ja_icmp_gt C 62 jd_X_areSides_6 (by decide) (fun c2 => no0 (fun z => by unfold jl_take at z; rw [if_pos (Or.inr (show (4 : Int32) < n from c2))] at z; exact absurd z (by decide))) (fun c2 => ?_)
  obtain ⟨r, hr, en⟩ := nI_of2 (M := 4) (n := 4) (by decide) c1 (k2_le c2)
  clear no0
  match r, hr, en with
  | 0, _, en =>
    subst en
    have no : ∀ (hf : ¬ jl_take (nI 0) (jl_F a b c d) = 1), ja (jb_mk l (jb_rm 1 20 0 0) 5 "MeasuredTensors" D H0 (jt_all cI cJ cT cX) u) w sz 0 0 62 [(0, .int (nI 0)), (1, .int a), (2, .int b), (3, .int c), (4, .int d)] [] := by
      intro hf
      refine ja_iconst C (nI 0) jd_X_areSides_62 (by decide) ?_
      exact E jd_X_areSides_63 (Or.inl rfl) ⟨by rw [if_neg hf]; rfl, rfl, rfl⟩
    refine ja_iload_n C jd_X_areSides_9 0 rfl ?_
    refine ja_iconst C (nI 1) jd_X_areSides_10 (by decide) ?_
    refine ja_icmp_ltN C 21 jd_X_areSides_11 (by decide) (by decide) (by decide) (fun _ => ?_) (fun q => absurd q (by decide))
    refine ja_iload_n C jd_X_areSides_21 0 rfl ?_
    refine ja_iconst C (nI 2) jd_X_areSides_22 (by decide) ?_
    refine ja_icmp_ltN C 33 jd_X_areSides_23 (by decide) (by decide) (by decide) (fun _ => ?_) (fun q => absurd q (by decide))
    refine ja_iload_n C jd_X_areSides_33 0 rfl ?_
    refine ja_iconst C (nI 3) jd_X_areSides_34 (by decide) ?_
    refine ja_icmp_ltN C 45 jd_X_areSides_35 (by decide) (by decide) (by decide) (fun _ => ?_) (fun q => absurd q (by decide))
    refine ja_iload_n C jd_X_areSides_45 0 rfl ?_
    refine ja_iconst C (nI 4) jd_X_areSides_46 (by decide) ?_
    refine ja_icmp_ltN C 58 jd_X_areSides_47 (by decide) (by decide) (by decide) (fun _ => ?_) (fun q => absurd q (by decide))
    refine ja_iconst C (nI 1) jd_X_areSides_58 (by decide) ?_
    refine ja_goto C 63 jd_X_areSides_59 (by decide) ?_
    have hok : jl_take (nI 0) (jl_F a b c d) = 1 := (jl_take_iff (by decide)).mpr (fun j hj => by
      match j, hj with
      | j + 0, z => omega)
    exact E jd_X_areSides_63 (Or.inr rfl) ⟨by rw [if_pos hok]; rfl, rfl, rfl⟩
  | 1, _, en =>
    subst en
    have no : ∀ (hf : ¬ jl_take (nI 1) (jl_F a b c d) = 1), ja (jb_mk l (jb_rm 1 20 0 0) 5 "MeasuredTensors" D H0 (jt_all cI cJ cT cX) u) w sz 0 0 62 [(0, .int (nI 1)), (1, .int a), (2, .int b), (3, .int c), (4, .int d)] [] := by
      intro hf
      refine ja_iconst C (nI 0) jd_X_areSides_62 (by decide) ?_
      exact E jd_X_areSides_63 (Or.inl rfl) ⟨by rw [if_neg hf]; rfl, rfl, rfl⟩
    refine ja_iload_n C jd_X_areSides_9 0 rfl ?_
    refine ja_iconst C (nI 1) jd_X_areSides_10 (by decide) ?_
    refine ja_icmp_ltN C 21 jd_X_areSides_11 (by decide) (by decide) (by decide) (fun q => absurd q (by decide)) (fun _ => ?_)
    refine ja_iload_n C jd_X_areSides_14 1 rfl ?_
    refine jb_pS 8 C X jk_X_358 (jx_isSide) jd_X_areSides_15 rfl rfl ⟨by decide, by decide⟩ (Nat.le_of_ble_eq_true rfl) ?_
    refine ja_if_eqB C 62 jd_X_areSides_18 (by decide) (fun q0 => no (fun z => q0 ((jl_take_iff (by decide)).mp z 0 (by decide)))) (fun q0 => ?_)
    refine ja_iload_n C jd_X_areSides_21 0 rfl ?_
    refine ja_iconst C (nI 2) jd_X_areSides_22 (by decide) ?_
    refine ja_icmp_ltN C 33 jd_X_areSides_23 (by decide) (by decide) (by decide) (fun _ => ?_) (fun q => absurd q (by decide))
    refine ja_iload_n C jd_X_areSides_33 0 rfl ?_
    refine ja_iconst C (nI 3) jd_X_areSides_34 (by decide) ?_
    refine ja_icmp_ltN C 45 jd_X_areSides_35 (by decide) (by decide) (by decide) (fun _ => ?_) (fun q => absurd q (by decide))
    refine ja_iload_n C jd_X_areSides_45 0 rfl ?_
    refine ja_iconst C (nI 4) jd_X_areSides_46 (by decide) ?_
    refine ja_icmp_ltN C 58 jd_X_areSides_47 (by decide) (by decide) (by decide) (fun _ => ?_) (fun q => absurd q (by decide))
    refine ja_iconst C (nI 1) jd_X_areSides_58 (by decide) ?_
    refine ja_goto C 63 jd_X_areSides_59 (by decide) ?_
    have hok : jl_take (nI 1) (jl_F a b c d) = 1 := (jl_take_iff (by decide)).mpr (fun j hj => by
      match j, hj with
      | 0, _ => exact q0
      | j + 1, z => omega)
    exact E jd_X_areSides_63 (Or.inr rfl) ⟨by rw [if_pos hok]; rfl, rfl, rfl⟩
  | 2, _, en =>
    subst en
    have no : ∀ (hf : ¬ jl_take (nI 2) (jl_F a b c d) = 1), ja (jb_mk l (jb_rm 1 20 0 0) 5 "MeasuredTensors" D H0 (jt_all cI cJ cT cX) u) w sz 0 0 62 [(0, .int (nI 2)), (1, .int a), (2, .int b), (3, .int c), (4, .int d)] [] := by
      intro hf
      refine ja_iconst C (nI 0) jd_X_areSides_62 (by decide) ?_
      exact E jd_X_areSides_63 (Or.inl rfl) ⟨by rw [if_neg hf]; rfl, rfl, rfl⟩
    refine ja_iload_n C jd_X_areSides_9 0 rfl ?_
    refine ja_iconst C (nI 1) jd_X_areSides_10 (by decide) ?_
    refine ja_icmp_ltN C 21 jd_X_areSides_11 (by decide) (by decide) (by decide) (fun q => absurd q (by decide)) (fun _ => ?_)
    refine ja_iload_n C jd_X_areSides_14 1 rfl ?_
    refine jb_pS 8 C X jk_X_358 (jx_isSide) jd_X_areSides_15 rfl rfl ⟨by decide, by decide⟩ (Nat.le_of_ble_eq_true rfl) ?_
    refine ja_if_eqB C 62 jd_X_areSides_18 (by decide) (fun q0 => no (fun z => q0 ((jl_take_iff (by decide)).mp z 0 (by decide)))) (fun q0 => ?_)
    refine ja_iload_n C jd_X_areSides_21 0 rfl ?_
    refine ja_iconst C (nI 2) jd_X_areSides_22 (by decide) ?_
    refine ja_icmp_ltN C 33 jd_X_areSides_23 (by decide) (by decide) (by decide) (fun q => absurd q (by decide)) (fun _ => ?_)
    refine ja_iload_n C jd_X_areSides_26 2 rfl ?_
    refine jb_pS 8 C X jk_X_358 (jx_isSide) jd_X_areSides_27 rfl rfl ⟨by decide, by decide⟩ (Nat.le_of_ble_eq_true rfl) ?_
    refine ja_if_eqB C 62 jd_X_areSides_30 (by decide) (fun q1 => no (fun z => q1 ((jl_take_iff (by decide)).mp z 1 (by decide)))) (fun q1 => ?_)
    refine ja_iload_n C jd_X_areSides_33 0 rfl ?_
    refine ja_iconst C (nI 3) jd_X_areSides_34 (by decide) ?_
    refine ja_icmp_ltN C 45 jd_X_areSides_35 (by decide) (by decide) (by decide) (fun _ => ?_) (fun q => absurd q (by decide))
    refine ja_iload_n C jd_X_areSides_45 0 rfl ?_
    refine ja_iconst C (nI 4) jd_X_areSides_46 (by decide) ?_
    refine ja_icmp_ltN C 58 jd_X_areSides_47 (by decide) (by decide) (by decide) (fun _ => ?_) (fun q => absurd q (by decide))
    refine ja_iconst C (nI 1) jd_X_areSides_58 (by decide) ?_
    refine ja_goto C 63 jd_X_areSides_59 (by decide) ?_
    have hok : jl_take (nI 2) (jl_F a b c d) = 1 := (jl_take_iff (by decide)).mpr (fun j hj => by
      match j, hj with
      | 0, _ => exact q0
      | 1, _ => exact q1
      | j + 2, z => omega)
    exact E jd_X_areSides_63 (Or.inr rfl) ⟨by rw [if_pos hok]; rfl, rfl, rfl⟩
  | 3, _, en =>
    subst en
    have no : ∀ (hf : ¬ jl_take (nI 3) (jl_F a b c d) = 1), ja (jb_mk l (jb_rm 1 20 0 0) 5 "MeasuredTensors" D H0 (jt_all cI cJ cT cX) u) w sz 0 0 62 [(0, .int (nI 3)), (1, .int a), (2, .int b), (3, .int c), (4, .int d)] [] := by
      intro hf
      refine ja_iconst C (nI 0) jd_X_areSides_62 (by decide) ?_
      exact E jd_X_areSides_63 (Or.inl rfl) ⟨by rw [if_neg hf]; rfl, rfl, rfl⟩
    refine ja_iload_n C jd_X_areSides_9 0 rfl ?_
    refine ja_iconst C (nI 1) jd_X_areSides_10 (by decide) ?_
    refine ja_icmp_ltN C 21 jd_X_areSides_11 (by decide) (by decide) (by decide) (fun q => absurd q (by decide)) (fun _ => ?_)
    refine ja_iload_n C jd_X_areSides_14 1 rfl ?_
    refine jb_pS 8 C X jk_X_358 (jx_isSide) jd_X_areSides_15 rfl rfl ⟨by decide, by decide⟩ (Nat.le_of_ble_eq_true rfl) ?_
    refine ja_if_eqB C 62 jd_X_areSides_18 (by decide) (fun q0 => no (fun z => q0 ((jl_take_iff (by decide)).mp z 0 (by decide)))) (fun q0 => ?_)
    refine ja_iload_n C jd_X_areSides_21 0 rfl ?_
    refine ja_iconst C (nI 2) jd_X_areSides_22 (by decide) ?_
    refine ja_icmp_ltN C 33 jd_X_areSides_23 (by decide) (by decide) (by decide) (fun q => absurd q (by decide)) (fun _ => ?_)
    refine ja_iload_n C jd_X_areSides_26 2 rfl ?_
    refine jb_pS 8 C X jk_X_358 (jx_isSide) jd_X_areSides_27 rfl rfl ⟨by decide, by decide⟩ (Nat.le_of_ble_eq_true rfl) ?_
    refine ja_if_eqB C 62 jd_X_areSides_30 (by decide) (fun q1 => no (fun z => q1 ((jl_take_iff (by decide)).mp z 1 (by decide)))) (fun q1 => ?_)
    refine ja_iload_n C jd_X_areSides_33 0 rfl ?_
    refine ja_iconst C (nI 3) jd_X_areSides_34 (by decide) ?_
    refine ja_icmp_ltN C 45 jd_X_areSides_35 (by decide) (by decide) (by decide) (fun q => absurd q (by decide)) (fun _ => ?_)
    refine ja_iload_n C jd_X_areSides_38 3 rfl ?_
    refine jb_pS 8 C X jk_X_358 (jx_isSide) jd_X_areSides_39 rfl rfl ⟨by decide, by decide⟩ (Nat.le_of_ble_eq_true rfl) ?_
    refine ja_if_eqB C 62 jd_X_areSides_42 (by decide) (fun q2 => no (fun z => q2 ((jl_take_iff (by decide)).mp z 2 (by decide)))) (fun q2 => ?_)
    refine ja_iload_n C jd_X_areSides_45 0 rfl ?_
    refine ja_iconst C (nI 4) jd_X_areSides_46 (by decide) ?_
    refine ja_icmp_ltN C 58 jd_X_areSides_47 (by decide) (by decide) (by decide) (fun _ => ?_) (fun q => absurd q (by decide))
    refine ja_iconst C (nI 1) jd_X_areSides_58 (by decide) ?_
    refine ja_goto C 63 jd_X_areSides_59 (by decide) ?_
    have hok : jl_take (nI 3) (jl_F a b c d) = 1 := (jl_take_iff (by decide)).mpr (fun j hj => by
      match j, hj with
      | 0, _ => exact q0
      | 1, _ => exact q1
      | 2, _ => exact q2
      | j + 3, z => omega)
    exact E jd_X_areSides_63 (Or.inr rfl) ⟨by rw [if_pos hok]; rfl, rfl, rfl⟩
  | 4, _, en =>
    subst en
    have no : ∀ (hf : ¬ jl_take (nI 4) (jl_F a b c d) = 1), ja (jb_mk l (jb_rm 1 20 0 0) 5 "MeasuredTensors" D H0 (jt_all cI cJ cT cX) u) w sz 0 0 62 [(0, .int (nI 4)), (1, .int a), (2, .int b), (3, .int c), (4, .int d)] [] := by
      intro hf
      refine ja_iconst C (nI 0) jd_X_areSides_62 (by decide) ?_
      exact E jd_X_areSides_63 (Or.inl rfl) ⟨by rw [if_neg hf]; rfl, rfl, rfl⟩
    refine ja_iload_n C jd_X_areSides_9 0 rfl ?_
    refine ja_iconst C (nI 1) jd_X_areSides_10 (by decide) ?_
    refine ja_icmp_ltN C 21 jd_X_areSides_11 (by decide) (by decide) (by decide) (fun q => absurd q (by decide)) (fun _ => ?_)
    refine ja_iload_n C jd_X_areSides_14 1 rfl ?_
    refine jb_pS 8 C X jk_X_358 (jx_isSide) jd_X_areSides_15 rfl rfl ⟨by decide, by decide⟩ (Nat.le_of_ble_eq_true rfl) ?_
    refine ja_if_eqB C 62 jd_X_areSides_18 (by decide) (fun q0 => no (fun z => q0 ((jl_take_iff (by decide)).mp z 0 (by decide)))) (fun q0 => ?_)
    refine ja_iload_n C jd_X_areSides_21 0 rfl ?_
    refine ja_iconst C (nI 2) jd_X_areSides_22 (by decide) ?_
    refine ja_icmp_ltN C 33 jd_X_areSides_23 (by decide) (by decide) (by decide) (fun q => absurd q (by decide)) (fun _ => ?_)
    refine ja_iload_n C jd_X_areSides_26 2 rfl ?_
    refine jb_pS 8 C X jk_X_358 (jx_isSide) jd_X_areSides_27 rfl rfl ⟨by decide, by decide⟩ (Nat.le_of_ble_eq_true rfl) ?_
    refine ja_if_eqB C 62 jd_X_areSides_30 (by decide) (fun q1 => no (fun z => q1 ((jl_take_iff (by decide)).mp z 1 (by decide)))) (fun q1 => ?_)
    refine ja_iload_n C jd_X_areSides_33 0 rfl ?_
    refine ja_iconst C (nI 3) jd_X_areSides_34 (by decide) ?_
    refine ja_icmp_ltN C 45 jd_X_areSides_35 (by decide) (by decide) (by decide) (fun q => absurd q (by decide)) (fun _ => ?_)
    refine ja_iload_n C jd_X_areSides_38 3 rfl ?_
    refine jb_pS 8 C X jk_X_358 (jx_isSide) jd_X_areSides_39 rfl rfl ⟨by decide, by decide⟩ (Nat.le_of_ble_eq_true rfl) ?_
    refine ja_if_eqB C 62 jd_X_areSides_42 (by decide) (fun q2 => no (fun z => q2 ((jl_take_iff (by decide)).mp z 2 (by decide)))) (fun q2 => ?_)
    refine ja_iload_n C jd_X_areSides_45 0 rfl ?_
    refine ja_iconst C (nI 4) jd_X_areSides_46 (by decide) ?_
    refine ja_icmp_ltN C 58 jd_X_areSides_47 (by decide) (by decide) (by decide) (fun q => absurd q (by decide)) (fun _ => ?_)
    refine ja_iload C jd_X_areSides_50 4 rfl ?_
    refine jb_pS 8 C X jk_X_358 (jx_isSide) jd_X_areSides_52 rfl rfl ⟨by decide, by decide⟩ (Nat.le_of_ble_eq_true rfl) ?_
    refine ja_if_eqB C 62 jd_X_areSides_55 (by decide) (fun q3 => no (fun z => q3 ((jl_take_iff (by decide)).mp z 3 (by decide)))) (fun q3 => ?_)
    refine ja_iconst C (nI 1) jd_X_areSides_58 (by decide) ?_
    refine ja_goto C 63 jd_X_areSides_59 (by decide) ?_
    have hok : jl_take (nI 4) (jl_F a b c d) = 1 := (jl_take_iff (by decide)).mpr (fun j hj => by
      match j, hj with
      | 0, _ => exact q0
      | 1, _ => exact q1
      | 2, _ => exact q2
      | 3, _ => exact q3
      | j + 4, z => omega)
    exact E jd_X_areSides_63 (Or.inr rfl) ⟨by rw [if_pos hok]; rfl, rfl, rfl⟩
  | r + 5, z, _ => omega
theorem jx_begin {p : Int32} (hst : l.stackTraces = false) (h : jXd cI cT cX x P σ dr F G own fT ls w k f m tm) : jb_T l jy_X_begin jc_X_begin 2 none 6 82 5 25 D H0 (jt_all cI cJ cT cX) [.ref x, .int p] w sz
    (fun v w' sz' => v = none ∧ ∃ (σ' : jSt), jA_begin σ p 0 σ' ∧ jXP cI cT cX x P w sz σ' w' sz') (fun E w' sz' => (E = "java/lang/IllegalArgumentException" ∧ jA_begin σ p 1 σ) ∧ jXP cI cT cX x P w sz σ w' sz') := by
  refine jb_methT_v hst (by decide) (Nat.le_of_ble_eq_true rfl) (fun u C X E TH => ?_)
  have hxd := h.xd
  have bad : ∀ (hf : p < 0 ∨ 64 < p), ja (jb_mk l (jb_rm 6 82 5 25) 2 "MeasuredTensors" D H0 (jt_all cI cJ cT cX) u) w sz 5 25 10 [(0, .ref x), (1, .int p)] [] := by
    intro hf
    exact TH jt9_54_52 jd_X_begin_10 jd_X_begin_13 jd_X_begin_14 jd_X_begin_16 jd_X_begin_19 ⟨Nat.le_of_ble_eq_true rfl, Nat.le_of_ble_eq_true rfl⟩ (fun z9 hz9 => ⟨⟨rfl, fun _ => ⟨rfl, rfl⟩, fun z => absurd hf z⟩, h.jXP jXF.rf hz9⟩)
  refine ja_iload_n C jd_X_begin_0 1 rfl ?_
  refine ja_if_lt C 10 jd_X_begin_1 (by decide) (fun c1 => bad (Or.inl c1)) (fun c1 => ?_)
  refine ja_iload_n C jd_X_begin_4 1 rfl ?_
  refine ja_bipush C (nI 64) jd_X_begin_5 (by decide) ?_
  refine ja_icmp_le C 20 jd_X_begin_7 (by decide) (fun c2 => ?_) (fun c2 => bad (Or.inr (k2_lt c2)))
  have nb : ¬ (p < 0 ∨ 64 < p) := fun z => z.elim c1 (fun z => k2_nle z c2)
  obtain ⟨k9, hk9, ep⟩ := nI_of2 (M := 64) (n := 64) (by decide) c1 c2
  have ek : p.toNatClampNeg = k9 := by rw [ep]; exact nI_clamp (by omega)
  refine ja_aload_n C jd_X_begin_20 0 rfl ?_
  refine ja_iconst C (nI 0) jd_X_begin_21 (by decide) ?_
  refine jo_put C jp_X_36 jnf_X_5 jd_X_begin_22 h.obj rfl rfl (Nat.le_of_ble_eq_true rfl) [.ref (x + 1), .ref (x + 2), .ref (x + 3), .ref (x + 4), .ref dr, .int (nI 0), .int (nI (jSt_i σ)), .int (nI (jSt_w σ)), .int ls, .int (nI (jSt_p σ))] rfl (fun w1 g1 f1 => ?_)
  refine ja_aload_n C jd_X_begin_25 0 rfl ?_
  refine ja_iconst C (nI 0) jd_X_begin_26 (by decide) ?_
  refine jo_put C jp_X_40 jnf_X_6 jd_X_begin_27 g1 rfl rfl (Nat.le_of_ble_eq_true rfl) [.ref (x + 1), .ref (x + 2), .ref (x + 3), .ref (x + 4), .ref dr, .int (nI 0), .int (nI 0), .int (nI (jSt_w σ)), .int ls, .int (nI (jSt_p σ))] rfl (fun w2 g2 f2 => ?_)
  refine ja_aload_n C jd_X_begin_30 0 rfl ?_
  refine ja_iconst C (nI 0) jd_X_begin_31 (by decide) ?_
  refine jo_put C jp_X_43 jnf_X_7 jd_X_begin_32 g2 rfl rfl (Nat.le_of_ble_eq_true rfl) [.ref (x + 1), .ref (x + 2), .ref (x + 3), .ref (x + 4), .ref dr, .int (nI 0), .int (nI 0), .int (nI 0), .int ls, .int (nI (jSt_p σ))] rfl (fun w3 g3 f3 => ?_)
  refine ja_aload_n C jd_X_begin_35 0 rfl ?_
  refine ja_iconst C (-1) jd_X_begin_36 (by decide) ?_
  refine jo_put C jp_X_46 jnf_X_8 jd_X_begin_37 g3 rfl rfl (Nat.le_of_ble_eq_true rfl) [.ref (x + 1), .ref (x + 2), .ref (x + 3), .ref (x + 4), .ref dr, .int (nI 0), .int (nI 0), .int (nI 0), .int (-1), .int (nI (jSt_p σ))] rfl (fun w4 g4 f4 => ?_)
  refine ja_aload_n C jd_X_begin_40 0 rfl ?_
  refine ja_iload_n C jd_X_begin_41 1 rfl ?_
  refine jo_put C jp_X_49 jnf_X_9 jd_X_begin_42 g4 rfl rfl (Nat.le_of_ble_eq_true rfl) [.ref (x + 1), .ref (x + 2), .ref (x + 3), .ref (x + 4), .ref dr, .int (nI 0), .int (nI 0), .int (nI 0), .int (-1), .int p] rfl (fun w5 g5 f5 => ?_)
  have fr : ∀ c, c ≠ x → w5 c = w c := fun c hc => (f5 c hc).trans ((f4 c hc).trans ((f3 c hc).trans ((f2 c hc).trans (f1 c hc))))
  obtain ⟨h1, h2, h3, ⟨r4, e4, q4, h4⟩, ⟨r5, e5, q5, h5⟩, ⟨h6a, h6b, hd, h6⟩, h7, h8, h9, h10, h11, h12, h13, h14⟩ := h
  have hy : jXd cI cT cX x P (jSt_begin σ k9) dr F G own fT (-1) w5 k f m tm := ⟨by show w5 x = some (.inr (4, [.ref (x + 1), .ref (x + 2), .ref (x + 3), .ref (x + 4), .ref dr, .int (nI 0), .int (nI 0), .int (nI 0), .int (-1), .int (nI k9)])); rw [← ep]; exact g5, (fr _ (by omega)).trans h2, (fr _ (by omega)).trans h3, ⟨r4, e4, q4, (fr _ (by omega)).trans h4⟩, ⟨r5, e5, q5, (fr _ (by omega)).trans h5⟩, ⟨h6a, h6b.kept (fun c c1 c2 => fr c (by omega)), hd, h6⟩, ⟨Nat.zero_le _, Nat.zero_le _, Nat.zero_le _, hk9⟩, fun t ht => absurd ht (Nat.not_lt_zero t), fun t b hb => by obtain ⟨q1, q2, q3, k8, f8, m8, t8, q4', q5'⟩ := h9 t b hb; exact ⟨q1, q2, q3, k8, f8, m8, t8, q4', q5'.kept (fun c c1 c2 => fr c (by omega))⟩, h10, fun i hi => absurd hi (Nat.not_lt_zero i), h12, h13, h14⟩
  exact E jd_X_begin_45 ⟨rfl, _, ⟨fun z => absurd z nb, fun _ => ⟨rfl, by rw [ek]⟩⟩, hy.jXP (fun c hc => fr c (fun e9 => hc (by rw [e9]; exact h12 0 (by decide)))) (Nat.le_refl _)⟩
end X80
